import java.nio.charset.StandardCharsets;
import java.nio.file.Files;
import java.nio.file.Path;
import java.util.List;
import java.util.regex.Matcher;
import java.util.regex.Pattern;

/** Rules of ../shared/LANGUAGE.md that can be read off the text of the class. */
public final class SourceTest {
    private static final Path SOURCE = Path.of("src/main/java/DareBridge.java");
    private static final String[] BANNED = {
        "\\bthrow\\b", "\\btry\\b", "\\bcatch\\b", "\\bsynchronized\\b", "\\bassert\\b", "\\bimport\\b", "\\bpackage\\b",
        "->", "::", "Exact\\(", "\\bSystem\\.(?!arraycopy)", "\\bObject\\b", "\\bThread\\b", "\\bprotected\\b", "\\bstatic \\{",
        "\\bhashCode\\b", "\\btoString\\b", "\\bRandom\\b", "\\bvar\\b"
    };
    private static int wrong = 0;

    public static void main(String[] args) throws Exception {
        byte[] bytes = Files.readAllBytes(SOURCE);
        for (byte b : bytes) {
            if (b < 0) {
                fail("a sign above 127");
                break;
            }
        }
        List<String> lines = new String(bytes, StandardCharsets.US_ASCII).lines()
            .map(SourceTest::code).toList();
        bans(lines);
        indexes(lines);
        statics(lines);
        methods(lines);
        System.out.println(wrong == 0 ? "the source keeps the rules that were looked at" : wrong + " breaches");
        if (wrong != 0) {
            System.exit(1);
        }
    }

    private static void fail(String what) {
        wrong++;
        System.out.println("LANGUAGE.md: " + what);
    }

    private static String code(String line) {
        return line.replaceAll("/\\*\\*.*\\*/", "").replaceAll("//.*", "").replaceAll("'.'", "' '");
    }

    private static void bans(List<String> lines) {
        for (String banned : BANNED) {
            Pattern pattern = Pattern.compile(banned);
            for (int i = 0; i < lines.size(); i++) {
                if (pattern.matcher(lines.get(i)).find()) {
                    fail("line " + (i + 1) + " has " + banned);
                }
            }
        }
    }

    /** Rows are read and written by at and put alone. */
    private static void indexes(List<String> lines) {
        Pattern index = Pattern.compile("(?<!new int)\\[[^\\]]+\\]");
        int found = 0;
        for (String line : lines) {
            Matcher matcher = index.matcher(line);
            while (matcher.find()) {
                found++;
                if (!line.contains("row[i]")) {
                    fail("an index beside at and put: " + line.trim());
                }
            }
        }
        if (found != 2) {
            fail("indexes are at " + found + " places, not in at and put alone");
        }
    }

    private static void statics(List<String> lines) {
        Pattern field = Pattern.compile("\\bstatic\\b(?!.*\\bfinal\\b).*(;|=)");
        for (String line : lines) {
            if (field.matcher(line).find() && !line.contains("(")) {
                fail("a static field that is not final: " + line.trim());
            }
        }
    }

    private static void methods(List<String> lines) {
        Pattern head = Pattern.compile("^( {4}| {8})\\w[\\w<>\\[\\] ]*\\(([^)]*)\\) \\{$");
        for (int i = 0; i < lines.size(); i++) {
            Matcher matcher = head.matcher(lines.get(i));
            if (!matcher.find() || lines.get(i).trim().matches("(if|for|while|switch|else).*")) {
                continue;
            }
            if (matcher.group(2).split(",").length > 7) {
                fail("more than seven parameters: " + lines.get(i).trim());
            }
            int end = i;
            while (end < lines.size() && !lines.get(end).equals(matcher.group(1) + "}")) {
                end++;
            }
            if (end - i > 60) {
                fail("a long method: " + lines.get(i).trim());
            }
        }
    }
}
