import java.lang.reflect.Method;
import java.lang.reflect.Modifier;
import java.net.URL;
import java.net.URLClassLoader;
import java.nio.file.Files;
import java.nio.file.Path;
import java.util.ArrayList;
import java.util.List;
import java.util.regex.Matcher;
import java.util.regex.Pattern;
import javax.tools.ToolProvider;

/**
 * README.md, beside the class: its examples, one behind the other, are compiled and run, and each call answers what
 * stands behind it; each call of the face, each number of a refusal and each test is named.
 */
public final class ReadmeTest {
    private ReadmeTest() {
    }

    public static void main(String[] args) throws Exception {
        String page = Files.readString(Path.of("README.md"));
        names(page);
        examples(page);
        Checks.finish();
    }

    private static void named(String page, String what) {
        Checks.due("README.md names " + what, page.contains(what) ? 1 : 0, 1);
    }

    private static void names(String page) throws Exception {
        for (Method m : CoatGoals.class.getDeclaredMethods()) {
            if (Modifier.isPublic(m.getModifiers())) {
                boolean isThere = Pattern.compile("`" + m.getName() + "[`(]").matcher(page).find();
                Checks.due("README.md names " + m.getName(), isThere ? 1 : 0, 1);
            }
        }
        for (String refusal : List.of("BAD", "FULL", "STATE", "SPENT", "FINDING")) {
            named(page, "| " + CoatGoals.class.getField(refusal).getInt(null) + " | `" + refusal + "` |");
        }
        named(page, "`NONE`, " + CoatGoals.NONE);
        String[] findings = {"NOTHING", "BEYOND", "UNLIKE", "NOUGHT", "SIZE"};
        for (int f = 1; f <= 5; f++) {
            named(page, "| " + f + " | " + findings[f - 1] + " |");
        }
        named(page, "512");
        named(page, "`.ci/run`");
        try (var tests = Files.list(Path.of("src/test/java"))) {
            for (Path test : tests.filter(t -> t.toString().endsWith("Test.java")).sorted().toList()) {
                named(page, "| " + test.getFileName().toString().replace(".java", "") + " |");
            }
        }
    }

    /** A line "x.call(..); // n .." becomes one that holds the answer to n. */
    private static String checked(String line) {
        Matcher m = Pattern.compile("^(\\s*)(x\\.\\w+\\(.*\\)); +// (-?\\d+)\\b.*$").matcher(line);
        if (!m.matches()) {
            return line;
        }
        String call = m.group(2).replace("\"", "'");
        return m.group(1) + "answers.add(new Object[] {\"" + call + "\", (long) " + m.group(2) + ", " + m.group(3) + "L});";
    }

    private static void examples(String page) throws Exception {
        StringBuilder body = new StringBuilder();
        int calls = 0;
        Matcher block = Pattern.compile("(?s)```java\n(.*?)```").matcher(page);
        while (block.find()) {
            for (String line : block.group(1).split("\n")) {
                body.append(checked(line)).append("\n");
                calls += checked(line).equals(line) ? 0 : 1;
                Checks.due("an answer stands behind " + line, line.contains("x.") && checked(line).equals(line) ? 1 : 0, 0);
            }
        }
        Checks.due("examples are there", calls > 10 ? 1 : 0, 1);
        Path folder = Files.createTempDirectory("readme");
        Path file = folder.resolve("Examples.java");
        Files.writeString(file, "public final class Examples { public static void run(java.util.List<Object[]> answers) {\n"
            + body + "} }\n");
        int compiled = ToolProvider.getSystemJavaCompiler().run(null, null, null, "-proc:none",
            "-cp", System.getProperty("java.class.path"), "-d", folder.toString(), file.toString());
        Checks.due("the examples compile", compiled, 0);
        if (compiled == 0) {
            run(folder);
        }
        Files.deleteIfExists(folder.resolve("Examples.class"));
        Files.delete(file);
        Files.delete(folder);
    }

    private static void run(Path folder) throws Exception {
        List<Object[]> answers = new ArrayList<>();
        try (URLClassLoader loader = new URLClassLoader(new URL[] {folder.toUri().toURL()}, ReadmeTest.class.getClassLoader())) {
            loader.loadClass("Examples").getMethod("run", List.class).invoke(null, answers);
        }
        for (Object[] answer : answers) {
            Checks.due("README.md, " + answer[0], (Long) answer[1], (Long) answer[2]);
        }
    }
}
