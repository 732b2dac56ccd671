import java.lang.reflect.Constructor;
import java.lang.reflect.Field;
import java.lang.reflect.Member;
import java.lang.reflect.Method;
import java.lang.reflect.Modifier;
import java.util.Arrays;
import java.util.Set;
import java.util.TreeSet;

/** The public face: just the document's constants, constructor and methods, and nothing else to be seen. */
public final class FaceTest {
    private static final String[] METHODS = {
        "int row(int,int)", "int lay(int,int,int)", "int at(int,int)", "int tear(int)",
        "int copy(int,int,int,int,int)", "int mean(int)", "int text(int,int)", "int put(int,int,int)",
        "int fault(int)", "int republic(int)", "int player(int,int)", "int mark(int,int)", "int term()",
        "int nudge(int,int)", "int rain(int)", "int stand(int,int)", "int undo(int)", "int keep(int)", "int on(int)",
        "int lands(int,int,int)", "int in(int,int)", "int seen(int)", "int lead(int)", "int amend(int,int,int)",
        "int coats(int,int)", "int sure(int,int)", "int next(int,int)", "int stood(int,int)", "int kinds(int,int)",
        "int sets(int)", "int surely(int)", "int duel(int)", "int odds(int,int)", "int mid(int)",
        "int lots(int,int)", "int asked()", "long upper()", "long lower()", "int count(int)", "int finding()",
        "int findings(int)", "long digest()"};

    public static void main(String[] args) {
        constants();
        members();
        Checks.finish();
    }

    private static void constants() {
        Checks.due("BAD", CoatGoals.BAD, -1);
        Checks.due("FULL", CoatGoals.FULL, -2);
        Checks.due("FINDING", CoatGoals.FINDING, -3);
        Checks.due("STATE", CoatGoals.STATE, -4);
        Checks.due("SPENT", CoatGoals.SPENT, -6);
        Checks.due("NONE", CoatGoals.NONE, -9);
    }

    private static boolean isSeen(Member m) {
        return !Modifier.isPrivate(m.getModifiers()) && !m.isSynthetic();
    }

    private static void members() {
        Checks.due("public", Modifier.isPublic(CoatGoals.class.getModifiers()) ? 1 : 0, 1);
        Checks.due("final", Modifier.isFinal(CoatGoals.class.getModifiers()) ? 1 : 0, 1);
        Set<String> seen = new TreeSet<>();
        Set<String> names = new TreeSet<>();
        for (Method m : CoatGoals.class.getDeclaredMethods()) {
            if (isSeen(m)) {
                String types = Arrays.toString(m.getParameterTypes()).replaceAll("[\\[\\] ]", "");
                seen.add(m.getReturnType() + " " + m.getName() + "(" + types + ")");
                names.add(m.getName());
                Checks.due(m.getName() + " is public", Modifier.isPublic(m.getModifiers()) ? 1 : 0, 1);
            }
        }
        Set<String> want = new TreeSet<>(Arrays.asList(METHODS));
        Checks.due("the methods " + seen, seen.equals(want) ? 1 : 0, 1);
        for (Method m : CoatGoals.class.getDeclaredMethods()) {
            Checks.due("private " + m.getName(), !isSeen(m) && names.contains(m.getName()) ? 1 : 0, 0);
        }
        int fields = 0;
        for (Field f : CoatGoals.class.getDeclaredFields()) {
            fields += isSeen(f) ? 1 : 0;
        }
        Checks.due("visible fields", fields, 6);
        Constructor<?>[] made = CoatGoals.class.getDeclaredConstructors();
        Checks.due("constructors", made.length, 1);
        Checks.due("a public one", Modifier.isPublic(made[0].getModifiers()) ? made[0].getParameterCount() : -1, 0);
    }
}
