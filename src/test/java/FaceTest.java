import java.lang.reflect.Constructor;
import java.lang.reflect.Field;
import java.lang.reflect.Member;
import java.lang.reflect.Method;
import java.lang.reflect.Modifier;
import java.nio.file.Files;
import java.nio.file.Path;
import java.util.Arrays;
import java.util.Set;
import java.util.TreeSet;
import java.util.regex.Matcher;
import java.util.regex.Pattern;
import java.util.stream.Collectors;

/**
 * The public face: just the constants, constructor and methods that stand in the document's section of that name (its
 * path is the second argument), and nothing else to be seen.
 */
public final class FaceTest {
    private FaceTest() {
    }

    public static void main(String[] args) throws Exception {
        String document = Files.readString(Path.of(args.length > 1 ? args[1] : "../shared/DOC.md"));
        Matcher section = Pattern.compile("(?s)\n## The public face\n+```java\n(.*?)```").matcher(document);
        Checks.due("the document has a face", section.find() ? 1 : 0, 1);
        String face = section.group(1);
        kindOfClass(face);
        constants(face);
        methods(face);
        promised(document);
        constructors();
        Checks.finish();
    }

    private static boolean isSeen(Member m) {
        return !Modifier.isPrivate(m.getModifiers()) && !m.isSynthetic();
    }

    private static void kindOfClass(String face) {
        Checks.due("the document's class", face.startsWith("public final class CoatGoals {") ? 1 : 0, 1);
        Checks.due("public", Modifier.isPublic(CoatGoals.class.getModifiers()) ? 1 : 0, 1);
        Checks.due("final", Modifier.isFinal(CoatGoals.class.getModifiers()) ? 1 : 0, 1);
        Checks.due("above it", CoatGoals.class.getSuperclass() == Object.class ? CoatGoals.class.getInterfaces().length : -1, 0);
        Checks.due("without a package", CoatGoals.class.getPackageName().isEmpty() ? 1 : 0, 1);
        for (Class<?> inside : CoatGoals.class.getDeclaredClasses()) {
            int flags = inside.getModifiers();
            boolean fits = Modifier.isStatic(flags) && !Modifier.isPublic(flags) && !Modifier.isProtected(flags);
            Checks.due(inside.getName() + " is static and not to be seen", fits ? 1 : 0, 1);
        }
    }

    private static void constants(String face) throws Exception {
        Matcher line = Pattern.compile("public static final int (.*);").matcher(face);
        Checks.due("the document's constants", line.find() ? 1 : 0, 1);
        Set<String> want = new TreeSet<>();
        for (String one : line.group(1).split(", ")) {
            want.add(one);
        }
        Checks.due("constants in the document", want.size(), 6);
        Set<String> seen = new TreeSet<>();
        for (Field f : CoatGoals.class.getDeclaredFields()) {
            if (isSeen(f)) {
                int flags = Modifier.PUBLIC | Modifier.STATIC | Modifier.FINAL;
                Checks.due(f.getName() + " is public, static, final", f.getModifiers(), flags);
                Checks.due(f.getName() + " is an int", f.getType() == int.class ? 1 : 0, 1);
                seen.add(f.getName() + " = " + f.getInt(null));
            }
        }
        Checks.due("the constants " + seen, seen.equals(want) ? 1 : 0, 1);
    }

    private static void methods(String face) {
        Set<String> want = new TreeSet<>();
        Matcher line = Pattern.compile("public ((?:int|long) \\w+)\\((.*?)\\);").matcher(face);
        while (line.find()) {
            want.add(line.group(1) + "(" + line.group(2).replaceAll("int \\w+", "int") + ")");
        }
        Checks.due("methods in the document", want.size(), 42);
        Set<String> seen = new TreeSet<>();
        Set<String> names = new TreeSet<>();
        for (Method m : CoatGoals.class.getDeclaredMethods()) {
            if (isSeen(m)) {
                String types = Arrays.stream(m.getParameterTypes()).map(Class::getName).collect(Collectors.joining(", "));
                seen.add(m.getReturnType() + " " + m.getName() + "(" + types + ")");
                names.add(m.getName());
                Checks.due(m.getName() + " is public, of an object", m.getModifiers(), Modifier.PUBLIC);
                Checks.due(m.getName() + " throws", m.getExceptionTypes().length, 0);
            }
        }
        Checks.due("the methods " + seen, seen.equals(want) ? 1 : 0, 1);
        for (Method m : CoatGoals.class.getDeclaredMethods()) {
            Checks.due("private " + m.getName(), !isSeen(m) && names.contains(m.getName()) ? 1 : 0, 0);
        }
    }

    /** Each promise but the first is one of a method, in the face's order, with the head that it has there. */
    private static void promised(String document) {
        Matcher head = Pattern.compile("## Promise (\\d+): (\\w+)\n+`((?:int|long) \\w+\\([^`]*\\))`").matcher(document);
        int promise = 1;
        while (head.find()) {
            promise++;
            Checks.due("promises in their order", Integer.parseInt(head.group(1)), promise);
            Checks.due("the face has " + head.group(3), document.contains("    public " + head.group(3) + ";") ? 1 : 0, 1);
        }
        Checks.due("promises", promise, 43);
    }

    private static void constructors() {
        Constructor<?>[] made = CoatGoals.class.getDeclaredConstructors();
        Checks.due("constructors", made.length, 1);
        Checks.due("a public one", Modifier.isPublic(made[0].getModifiers()) ? made[0].getParameterCount() : -1, 0);
    }
}
