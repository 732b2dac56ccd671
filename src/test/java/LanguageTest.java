import java.nio.file.Files;
import java.nio.file.Path;
import java.util.ArrayList;
import java.util.List;
import java.util.regex.Matcher;
import java.util.regex.Pattern;

/** What can be read off the source of the rules in LANGUAGE.md; its path is the one argument. */
public final class LanguageTest {
    private static final String[] NEVER = {
        "throw", "throws", "try", "catch", "finally", "synchronized", "assert", "->", "::", "yield",
        "HashMap", "System.out", "Exact", "Random", "Thread", "Object", "hashCode", "toString", "double", "float"};

    public static void main(String[] args) throws Exception {
        String source = Files.readString(Path.of(args.length > 0 ? args[0] : "src/main/java/CoatGoals.java"));
        String code = source.replaceAll("(?s)/\\*.*?\\*/", " ").replaceAll("//[^\n]*", " ");
        for (String word : NEVER) {
            String pattern = Character.isLetter(word.charAt(0)) ? "\\b" + Pattern.quote(word) + "\\b" : Pattern.quote(word);
            Checks.due("'" + word + "' in the source", Pattern.compile(pattern).matcher(code).find() ? 1 : 0, 0);
        }
        Checks.due("no package", code.contains("package ") ? 1 : 0, 0);
        List<String> imports = all("import ([^;]*);", code);
        imports.removeIf(name -> name.equals("java.util.Arrays") || name.equals("java.util.ArrayList") || name.equals("java.util.List"));
        Checks.due("other imports " + imports, imports.size(), 0);
        Checks.due("classes, at most twelve", all("\\bclass (\\w+)", code).size() <= 12 ? 1 : 0, 1);
        Checks.due("static blocks", Pattern.compile("\\bstatic\\s*\\{").matcher(code).find() ? 1 : 0, 0);
        methods(code);
        Checks.finish();
    }

    private static List<String> all(String pattern, String code) {
        List<String> found = new ArrayList<>();
        Matcher m = Pattern.compile(pattern).matcher(code);
        while (m.find()) {
            found.add(m.group(1));
        }
        return found;
    }

    /** Methods are short, with seven parameters at most. */
    private static void methods(String code) {
        String[] lines = code.split("\n");
        Pattern head = Pattern.compile("^(\\s+)(?:public |private |static |final )*[\\w\\[\\]]+ (\\w+)\\(([^)]*)\\) \\{$");
        int seen = 0;
        List<String> face = all("\\bpublic \\w+ (\\w+)\\(", code);
        for (int i = 0; i < lines.length; i++) {
            Matcher m = head.matcher(lines[i]);
            if (!m.matches() || lines[i].contains("else")) {
                continue;
            }
            int end = i;
            while (end < lines.length && !lines[end].equals(m.group(1) + "}")) {
                end++;
            }
            seen++;
            boolean isClash = !lines[i].contains("public ") && face.contains(m.group(2));
            Checks.due("a name of the face once more: " + m.group(2), isClash ? 1 : 0, 0);
            Checks.due("length of " + m.group(2) + ", " + (end - i + 1), end - i + 1 <= 60 ? 1 : 0, 1);
            int parameters = m.group(3).isBlank() ? 0 : m.group(3).split(",").length;
            Checks.due("parameters of " + m.group(2), parameters <= 7 ? 1 : 0, 1);
        }
        Checks.due("methods found", seen > 80 ? 1 : 0, 1);
    }
}
