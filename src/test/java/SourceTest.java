import java.lang.reflect.Field;
import java.lang.reflect.Method;
import java.lang.reflect.Modifier;
import java.nio.charset.StandardCharsets;
import java.nio.file.Files;
import java.nio.file.Path;
import java.util.List;
import java.util.Set;
import java.util.TreeSet;
import java.util.regex.Matcher;
import java.util.regex.Pattern;

/** Rules of ../shared/LANGUAGE.md that can be read off the text of the class. */
public final class SourceTest {
    private static final Path SOURCE = Path.of("src/main/java/DareBridge.java");
    private static final String[] BANNED = {
        "\\bthrow\\b", "\\btry\\b", "\\bcatch\\b", "\\bsynchronized\\b", "\\bassert\\b", "\\bpackage\\b",
        "\\bimport (?!java\\.util\\.(ArrayList|List|Arrays|Iterator|\\*);)", "^(?!\\s*(case|default)\\b).*->", "::", "Exact\\(",
        "\\bSystem\\.(?!arraycopy)", "\\bObject\\b", "\\bThread\\b", "\\bprotected\\b", "\\bstatic \\{",
        "\\bhashCode\\b", "\\bString toString\\b", "\\bRandom\\b"
    };
    private static final Set<String> CONSTANTS = Set.of("UNKNOWN", "OUTSIDE", "STATE", "FULL", "NO", "NONE", "GONE");
    private static final String FACE = "int person(int, int, int, int, boolean); int leave(int); int set(int, int);"
        + "int say(int); int wipe(); int fault(); int judge(int); int state(int, int); int behind(int, int); int done();"
        + "int ties(int); long unhurt(int); int odds(int, int); int worth(int, int, int); int does(int, int);"
        + "int nerve(int, int); int climb(int, int, int, int, int); long safe(int, int, int, int, int);"
        + "int law(int, int, int, int, int); int game(int, int, int, int, int); int enough(int); int holds(int);"
        + "int won(int); int refuser(int, int); int likely(int, int); int seen(int, int, int); int forget();"
        + "int prides(int, int); int year(int, int, int); int image(int); int restore(int); int told(int)";
    private static int wrong = 0;

    public static void main(String[] args) throws Exception {
        byte[] bytes = Files.readAllBytes(SOURCE);
        for (byte b : bytes) {
            if (b < 0) {
                fail("a sign above 127");
                break;
            }
        }
        List<String> lines = new String(bytes, StandardCharsets.US_ASCII).lines()
            .map(SourceTest::code).toList();
        bans(lines);
        indexes(lines);
        statics(lines);
        makes(lines);
        library(lines);
        methods(lines);
        face();
        System.out.println(wrong == 0 ? "the source keeps the rules that were looked at" : wrong + " breaches");
        if (wrong != 0) {
            System.exit(1);
        }
    }

    private static void fail(String what) {
        wrong++;
        System.out.println("LANGUAGE.md: " + what);
    }

    private static String code(String line) {
        return line.replaceAll("/\\*\\*.*\\*/", "").replaceAll("//.*", "").replaceAll("'.'", "' '");
    }

    private static void bans(List<String> lines) {
        for (String banned : BANNED) {
            Pattern pattern = Pattern.compile(banned);
            for (int i = 0; i < lines.size(); i++) {
                if (pattern.matcher(lines.get(i)).find()) {
                    fail("line " + (i + 1) + " has " + banned);
                }
            }
        }
    }

    /** Rows are read and written by at and put alone, which look at the index first. */
    private static void indexes(List<String> lines) {
        if (lines.stream().noneMatch(line -> line.contains("int at(int[] row, int i)"))) {
            return;
        }
        Pattern index = Pattern.compile("(?<!new int)\\[[^\\]]+\\]");
        int found = 0;
        for (String line : lines) {
            Matcher matcher = index.matcher(line);
            while (matcher.find()) {
                found++;
                if (!line.contains("row[i]")) {
                    fail("an index beside at and put: " + line.trim());
                }
            }
        }
        if (found != 2) {
            fail("indexes are at " + found + " places, not in at and put alone");
        }
    }

    private static void statics(List<String> lines) {
        Pattern field = Pattern.compile("\\bstatic\\b(?!.*\\bfinal\\b).*(;|=)");
        for (String line : lines) {
            if (field.matcher(line).find() && !line.contains("(")) {
                fail("a static field that is not final: " + line.trim());
            }
        }
    }

    /** All that is made is made with the object: what a run makes does not grow by its calls. */
    private static void makes(List<String> lines) {
        Pattern kept = Pattern.compile("^\\s+(private )?final \\w+(\\[\\])? \\w+ = new \\w+(\\(\\)|\\[[A-Z* ]+\\]);$");
        for (String line : lines) {
            if (line.matches(".*\\bnew\\b.*") && !kept.matcher(line).find()) {
                fail("what a call makes: " + line.trim());
            }
            if (line.contains("\"") || line.contains("clone(")) {
                fail("a text or a copy: " + line.trim());
            }
        }
    }

    private static void library(List<String> lines) {
        Pattern call = Pattern.compile("\\b([A-Z][a-z]\\w*)\\.(\\w+)\\(");
        Set<String> used = Set.of("Math.max", "Math.min", "Integer.bitCount", "Town.worthRefused");
        for (String line : lines) {
            Matcher matcher = call.matcher(line);
            while (matcher.find()) {
                if (!used.contains(matcher.group(1) + "." + matcher.group(2))) {
                    fail("a call of the library that was not looked at: " + line.trim());
                }
            }
        }
    }

    private static void methods(List<String> lines) {
        Pattern head = Pattern.compile("^( {4}| {8})\\w[\\w<>\\[\\] ]*\\(([^)]*)\\) \\{$");
        for (int i = 0; i < lines.size(); i++) {
            Matcher matcher = head.matcher(lines.get(i));
            if (!matcher.find() || lines.get(i).trim().matches("(if|for|while|switch|else).*")) {
                continue;
            }
            if (matcher.group(2).split(",").length > 7) {
                fail("more than seven parameters: " + lines.get(i).trim());
            }
            int end = i;
            while (end < lines.size() && !lines.get(end).equals(matcher.group(1) + "}")) {
                end++;
            }
            if (end - i > 65) {
                fail("a long method: " + lines.get(i).trim());
            }
        }
    }

    /** The document's face and nothing beside it; no private method bears the name of a public one. */
    private static void face() {
        Set<String> open = new TreeSet<>();
        for (Method method : DareBridge.class.getDeclaredMethods()) {
            if (Modifier.isPublic(method.getModifiers())) {
                open.add(method.getReturnType() + " " + method.getName() + List.of(method.getParameterTypes()));
            } else if (!Modifier.isPrivate(method.getModifiers()) && !method.isSynthetic()) {
                fail("neither public nor private: " + method);
            }
        }
        Set<String> due = new TreeSet<>();
        for (String head : FACE.split(";")) {
            String[] words = head.trim().split("[ (,)]+");
            due.add(words[0] + " " + words[1] + List.of(words).subList(2, words.length));
        }
        if (!open.equals(due)) {
            fail("the face is " + open + ", due is " + due);
        }
        for (Field field : DareBridge.class.getDeclaredFields()) {
            boolean constant = CONSTANTS.contains(field.getName());
            if (constant ? !Modifier.isPublic(field.getModifiers()) : !Modifier.isPrivate(field.getModifiers())) {
                fail("a field that is to be " + (constant ? "public: " : "private: ") + field);
            }
        }
        allNestedAreStatic(DareBridge.class, open);
    }

    private static void allNestedAreStatic(Class<?> outer, Set<String> open) {
        for (Method method : outer.getDeclaredMethods()) {
            if (Modifier.isPrivate(method.getModifiers())
                && open.stream().anyMatch(head -> head.contains(" " + method.getName() + "["))) {
                fail("a private method with the name of a public one: " + method);
            }
        }
        long fields = List.of(outer.getDeclaredFields()).stream().filter(f -> !Modifier.isStatic(f.getModifiers())).count();
        if (fields > 20 || outer.getDeclaredClasses().length > 11) {
            fail("too many fields or classes: " + outer);
        }
        for (Class<?> nested : outer.getDeclaredClasses()) {
            int is = nested.getModifiers();
            if (!Modifier.isStatic(is) || Modifier.isPublic(is) || Modifier.isProtected(is)) {
                fail("a class inside that is not as told: " + nested);
            }
            allNestedAreStatic(nested, open);
        }
    }
}
