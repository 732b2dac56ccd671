import com.sun.source.tree.CompilationUnitTree;
import com.sun.source.tree.ImportTree;
import com.sun.source.util.JavacTask;
import com.sun.source.util.Trees;
import java.nio.file.Files;
import java.nio.file.Path;
import java.util.HashSet;
import java.util.List;
import java.util.Map;
import java.util.Set;
import javax.tools.JavaCompiler;
import javax.tools.StandardJavaFileManager;
import javax.tools.ToolProvider;

/**
 * The rules of LANGUAGE.md, as far as they can be read off the source; its path is the one argument. The compiler
 * itself reads it (SourceRules goes through what it found), so comments and names can't mislead.
 */
public final class LanguageTest {
    private static final int CLASSES = 12, FIELDS = 20, DEPTH = 8;
    private static final List<String> IMPORTS = List.of("java.util.Arrays", "java.util.ArrayList", "java.util.List");

    private LanguageTest() {
    }

    public static void main(String[] args) throws Exception {
        String path = args.length > 0 ? args[0] : "src/main/java/CoatGoals.java";
        source(path);
        // The same eyes on a class that breaks the rules: each of these is seen.
        broken(Files.readString(Path.of(path)));
        Checks.finish();
    }

    private static SourceRules rulesOf(String path) throws Exception {
        JavaCompiler compiler = ToolProvider.getSystemJavaCompiler();
        try (StandardJavaFileManager files = compiler.getStandardFileManager(null, null, null)) {
            // What the compiler itself has to say of a source is .ci/run's.
            JavacTask task = (JavacTask) compiler.getTask(null, files, said -> { }, List.of("-proc:none"), null,
                files.getJavaFileObjects(path));
            CompilationUnitTree unit = task.parse().iterator().next();
            task.analyze();
            SourceRules rules = new SourceRules(Trees.instance(task), unit);
            rules.scan(unit, null);
            for (ImportTree one : unit.getImports()) {
                if (one.isStatic() || !IMPORTS.contains(one.getQualifiedIdentifier().toString())) {
                    rules.broke("4, import " + one.getQualifiedIdentifier());
                }
            }
            if (unit.getPackage() != null) {
                rules.broke("1, a package");
            }
            return rules;
        }
    }

    private static void source(String path) throws Exception {
        SourceRules rules = rulesOf(path);
        for (String found : rules.broken()) {
            Checks.due("rule " + found + ": held", 0, 1);
        }
        Checks.due("rules broken", rules.broken().size(), 0);
        Checks.due("classes", rules.fields().size() <= CLASSES ? 1 : 0, 1);
        for (Map.Entry<String, Integer> one : rules.fields().entrySet()) {
            Checks.due("fields of " + one.getKey() + ", " + one.getValue(), one.getValue() <= FIELDS ? 1 : 0, 1);
        }
        Checks.due("methods found", rules.calls().size() > 100 ? 1 : 0, 1);
        for (String method : rules.calls().keySet()) {
            int deep = depth(rules.calls(), method, new HashSet<>());
            Checks.due("calls from " + method + " on, " + deep + " deep", deep <= DEPTH ? 1 : 0, 1);
        }
    }

    /** How many methods of the program stand open at once, one that calls itself counted once; 99 for a ring of several. */
    private static int depth(Map<String, Set<String>> calls, String method, Set<String> open) {
        if (!open.add(method)) {
            return 99;
        }
        int deepest = 0;
        for (String called : calls.getOrDefault(method, Set.of())) {
            if (!called.equals(method)) {
                deepest = Math.max(deepest, depth(calls, called, open));
            }
        }
        open.remove(method);
        return deepest + 1;
    }

    /** One line more in the last method of the class, and which rule it breaks. */
    private static void broken(String source) throws Exception {
        String[][] lines = {
            {"1", "return n; } private int lay(int n) {"},
            {"1", "return n; } static final class More { private int lay(int n) { return n; } } private int more(int n) {"},
            {"5", "return n; } private static int[] kept = new int[3]; private int more(int n) {"},
            {"6", "if (n > 5) { throw new IllegalStateException(); }"},
            {"6", "try { n++; } finally { n--; }"},
            {"6", "assert n > 0;"},
            {"6", "String s = \"a\" + n;"},
            {"6", "synchronized (this) { n++; }"},
            {"2", "Runnable run = () -> { };"},
            {"2", "class Here { }"},
            {"3", "Object one = null;"},
            {"3", "double[][][] many = null;"},
            {"4", "n += Math.addExact(n, 1);"},
            {"4", "System.out.println(n);"},
            {"4", "n += (int) System.nanoTime();"},
            {"7", "n = 7 / n;"},
            {"7", "n %= found.length;"},
            {"7", "n = 7 / 0;"},
            {"9", "while (true) { n++; }"},
            {"9", "for (;;) { n++; }"},
            {"12", "for (int i = 0; i < 5; i++) { int[] more = new int[3]; }"}};
        for (String[] line : lines) {
            Checks.due("rule " + line[0] + " is broken by '" + line[1] + "', seen", seesIn(source, line[1], line[0]) ? 1 : 0, 1);
        }
        Checks.due("nothing is broken by 'n++;'", seesIn(source, "n++;", "") ? 1 : 0, 0);
    }

    private static boolean seesIn(String source, String line, String rule) throws Exception {
        int end = source.lastIndexOf('}');
        Path folder = Files.createTempDirectory("rules");
        Path file = folder.resolve("CoatGoals.java");
        Files.writeString(file, source.substring(0, end) + "    private int brokenBy(int n) { " + line + " return n; }\n}\n");
        SourceRules rules = rulesOf(file.toString());
        Files.delete(file);
        Files.delete(folder);
        return rules.broken().stream().anyMatch(found -> found.startsWith(rule));
    }
}
