import java.lang.reflect.InvocationTargetException;
import java.util.ArrayList;
import java.util.Arrays;
import java.util.List;
import java.util.function.Supplier;
import java.util.stream.Collectors;

/**
 * A sentence of the document (or a part of one, between its stops) that a test holds to. Calls are
 * made by their names, so that what a failing check prints is just what was called.
 */
final class Sentence {
    /** Stand for the sections "What it is" and "Terms", which have no numbers. */
    static final int WHAT = -1, TERMS = 0;

    private static final List<Sentence> ALL = new ArrayList<>();

    final int promise;
    final String words;
    private int checks = 0;

    private Sentence(int promise, String words) {
        this.promise = promise;
        this.words = words;
        ALL.add(this);
    }

    static Sentence of(int promise, String words) {
        return new Sentence(promise, words);
    }

    static Sentence ofTerms(String words) {
        return new Sentence(TERMS, words);
    }

    static Sentence ofWhat(String words) {
        return new Sentence(WHAT, words);
    }

    static List<Sentence> all() {
        return ALL;
    }

    boolean isChecked() {
        return checks > 0;
    }

    @Override
    public String toString() {
        return (promise == WHAT ? "What it is" : promise == TERMS ? "Terms" : "Promise " + promise) + ", '" + words + "'";
    }

    /** Numbers that are not taken where least .. most are: the first on both sides, the ends of int. */
    static int[] outside(int least, int most) {
        return new int[] {least - 1, most + 1, Integer.MIN_VALUE, Integer.MAX_VALUE};
    }

    static String named(String name, int... args) {
        return name + Arrays.stream(args).mapToObj(Integer::toString).collect(Collectors.joining(", ", "(", ")"));
    }

    static long call(CoatGoals x, String name, int... args) {
        Class<?>[] types = new Class<?>[args.length];
        Object[] values = new Object[args.length];
        for (int a = 0; a < args.length; a++) {
            types[a] = int.class;
            values[a] = args[a];
        }
        try {
            return ((Number) CoatGoals.class.getMethod(name, types).invoke(x, values)).longValue();
        } catch (InvocationTargetException thrown) {
            throw new IllegalStateException(named(name, args) + " threw", thrown.getCause());
        } catch (ReflectiveOperationException wrong) {
            throw new IllegalStateException("no such call: " + named(name, args), wrong);
        }
    }

    void due(String what, long got, long want) {
        checks++;
        Checks.due(this + ": " + what, got, want);
    }

    void answers(CoatGoals x, long want, String name, int... args) {
        due(named(name, args), call(x, name, args), want);
    }

    /** Answers 1, and tells by asked(). */
    void tells(CoatGoals x, int want, String name, int... args) {
        answers(x, 1, name, args);
        due(named(name, args) + ", asked()", x.asked(), want);
    }

    /** Answers what is wanted, and tells more by asked(). */
    void answersAndTells(CoatGoals x, int want, int asked, String name, int... args) {
        answers(x, want, name, args);
        due(named(name, args) + ", asked()", x.asked(), asked);
    }

    /** Answers 1, and tells by upper(), lower(). */
    void tellsPart(CoatGoals x, long upper, long lower, String name, int... args) {
        answers(x, 1, name, args);
        due(named(name, args) + ", upper()", x.upper(), upper);
        due(named(name, args) + ", lower()", x.lower(), lower);
    }

    /** Answers BAD, FULL or STATE, and leaves everything as it was. */
    void refuses(Supplier<CoatGoals> ready, int want, String name, int... args) {
        CoatGoals x = ready.get();
        answers(x, want, name, args);
        Twins.alike(this, named(name, args), x, ready.get(), 0);
    }

    /** Answers FINDING, notes which once more, and leaves all else as it was. */
    void finds(Supplier<CoatGoals> ready, int finding, String name, int... args) {
        CoatGoals x = ready.get();
        answers(x, CoatGoals.FINDING, name, args);
        Twins.alike(this, named(name, args), x, ready.get(), finding);
    }
}
