import java.io.IOException;
import java.lang.reflect.Field;
import java.lang.reflect.Method;
import java.lang.reflect.Modifier;
import java.net.URL;
import java.net.URLClassLoader;
import java.nio.file.Files;
import java.nio.file.Path;
import java.util.ArrayList;
import java.util.List;
import java.util.regex.Matcher;
import java.util.regex.Pattern;
import java.util.stream.Stream;
import javax.tools.ToolProvider;

/** README.md: its example answers what it says; it names every call, constant and test. */
public final class ReadmeTest {
    private static final Pattern ANSWERED = Pattern.compile("^(bridge\\.\\w+\\(.*\\));\\s*// (-?\\d+)\\b.*");
    private static final String NAMED = "%s is named in README.md";

    public static void main(String[] args) throws Exception {
        String page = Files.readString(Path.of("README.md"));
        example(page);
        names(page);
        Due.end();
    }

    private static void example(String page) throws Exception {
        int from = page.indexOf("```java\n") + 8;
        List<String> lines = page.substring(from, page.indexOf("```", from)).lines().toList();
        List<String> calls = new ArrayList<>();
        List<Long> due = new ArrayList<>();
        StringBuilder body = new StringBuilder();
        for (String line : lines) {
            Matcher answered = ANSWERED.matcher(line);
            if (answered.matches()) {
                body.append("got[").append(calls.size()).append("] = ").append(answered.group(1)).append(";\n");
                calls.add(answered.group(1));
                due.add(Long.parseLong(answered.group(2)));
            } else {
                Due.is("an answer stands behind " + line, line.startsWith("bridge.") ? 0 : 1, 1);
                body.append(line).append('\n');
            }
        }
        long[] got = answers("public class Example { public static long[] answers() {\nlong[] got = new long["
            + calls.size() + "];\n" + body + "return got; } }\n", calls.size());
        for (int i = 0; i < got.length; i++) {
            Due.is("README.md: " + calls.get(i), got[i], due.get(i));
        }
    }

    private static long[] answers(String text, int many) throws Exception {
        Path folder = Files.createTempDirectory("readme");
        try {
            Path file = folder.resolve("Example.java");
            Files.writeString(file, text);
            int failed = ToolProvider.getSystemJavaCompiler().run(null, null, null, "--release", "17",
                "-cp", System.getProperty("java.class.path"), "-d", folder.toString(), file.toString());
            Due.is("the example compiles", failed, 0);
            if (failed != 0) {
                return new long[0];
            }
            try (URLClassLoader loader = new URLClassLoader(new URL[] {folder.toUri().toURL()})) {
                long[] got = (long[]) loader.loadClass("Example").getMethod("answers").invoke(null);
                Due.is("answers of the example", got.length, many);
                return got;
            }
        } finally {
            for (String name : new String[] {"Example.java", "Example.class"}) {
                Files.deleteIfExists(folder.resolve(name));
            }
            Files.delete(folder);
        }
    }

    private static void names(String page) throws IOException, IllegalAccessException {
        for (Method method : DareBridge.class.getDeclaredMethods()) {
            if (Modifier.isPublic(method.getModifiers())) {
                is(page.contains("`" + method.getName() + "`"), method.getName());
                is(page.contains("bridge." + method.getName() + "("), method.getName() + ", in the example");
            }
        }
        for (Field field : DareBridge.class.getFields()) {
            is(page.contains("`" + field.getName() + "`"), field.getName());
            if (field.getType() == int.class && field.getInt(null) != DareBridge.NONE) {
                is(page.contains("| " + field.getInt(null) + " | `" + field.getName() + "` |"), field.getName() + "'s number");
            }
        }
        is(page.contains("`NONE`, " + DareBridge.NONE + ","), "NONE's number");
        is(page.contains("" + (DareBridge.GONE + DareBridge.OUTSIDE)), "GONE and a refusal");
        try (Stream<Path> tests = Files.list(Path.of("src/test/java"))) {
            tests.map(test -> test.getFileName().toString().replace(".java", "")).filter(test -> test.endsWith("Test"))
                .forEach(test -> is(page.contains("`" + test + "`"), test));
        }
    }

    private static void is(boolean named, String what) {
        Due.is(String.format(NAMED, what), named ? 1 : 0, 1);
    }
}
