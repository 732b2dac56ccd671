import java.lang.reflect.Method;
import java.util.ArrayList;
import java.util.Arrays;
import java.util.List;
import java.util.Random;

/**
 * Runs of calls by chance (with seeds of their own, so always the same), the program's answers beside the model's.
 * Each run is as long as the document allows, looks at what is told counted, too.
 */
public final class ModelTest {
    private static final int RUNS = 800;
    private static final int CALLS = 512;
    private static final String LETTERS = "pwkhtb";
    /** Numbers that are none, in most places. */
    private static final int[] ODD = {-1, 21, 41, 61, Integer.MIN_VALUE, Integer.MAX_VALUE, 1000};

    private final Random random;
    private final int run;
    private final CoatGoals program = new CoatGoals();
    private final Model model = new Model();
    private final List<String> calls = new ArrayList<>();
    private boolean differs = false;

    private ModelTest(int run) {
        this.run = run;
        this.random = new Random(run);
    }

    public static void main(String[] args) throws Exception {
        int differing = 0;
        int answers = 0;
        for (int run = 0; run < RUNS && differing < 5; run++) {
            ModelTest test = new ModelTest(run);
            test.go();
            answers += test.calls.size();
            differing += test.differs ? 1 : 0;
        }
        System.out.println(answers + " answers beside the model's, " + differing + " runs differ");
        if (differing != 0 || answers != RUNS * CALLS) {
            System.exit(1);
        }
    }

    private void go() throws Exception {
        Method[] methods = Arrays.stream(CoatGoals.class.getDeclaredMethods())
            .filter(m -> java.lang.reflect.Modifier.isPublic(m.getModifiers()))
            .sorted((a, b) -> a.getName().compareTo(b.getName()))
            .toArray(Method[]::new);
        // Every other run is watched: all that can be seen is looked at behind each call, so fewer others fit in.
        boolean isWatched = run % 2 == 0;
        if (random.nextInt(10) > 0) {
            writeRepublic(random.nextInt(4));
        }
        while (calls.size() < CALLS - 1 && !differs) {
            int chance = random.nextInt(100);
            if (chance < 3) {
                writeRepublic(random.nextInt(4));
            } else if (chance < 12) {
                writePairs(random.nextInt(6));
            } else {
                Method m = methods[random.nextInt(methods.length)];
                if (!m.getName().equals("republic") && !m.getName().equals("text") || random.nextInt(8) == 0) {
                    call(m.getName(), arguments(m));
                }
            }
            if (isWatched) {
                look();
            }
        }
        made("digest");
    }

    private void look() throws Exception {
        for (String told : new String[] {"asked", "upper", "lower", "finding", "digest"}) {
            call(told);
        }
    }

    private Object[] arguments(Method m) {
        Object[] args = new Object[m.getParameterCount()];
        for (int a = 0; a < args.length; a++) {
            args[a] = argument(m.getName(), a);
        }
        return args;
    }

    /** Mostly small and fitting, now and then odd. */
    private int argument(String name, int a) {
        if (random.nextInt(25) == 0) {
            return ODD[random.nextInt(ODD.length)];
        }
        switch (name) {
            case "row": return a == 0 ? random.nextInt(6) : random.nextInt(20) - 1;
            case "lay": return a == 0 ? random.nextInt(6) : random.nextInt(24) - 1;
            case "copy": return random.nextInt(6) - (a == 4 ? 1 : 0);
            case "text": return a == 0 ? random.nextInt(4) : random.nextInt(62) - 1;
            case "put": return a == 0 ? random.nextInt(4) : a == 1 ? random.nextInt(60) : random.nextInt(400) - 140;
            case "nudge": return a == 0 ? random.nextInt(4) : random.nextInt(7) - 3;
            case "stand": return a == 0 ? random.nextInt(6) : random.nextInt(21);
            case "undo": return random.nextInt(3) > 0 ? 20 + random.nextInt(22) : random.nextInt(20);
            case "lands": return a == 0 ? random.nextInt(6) : a == 1 ? random.nextInt(21) : random.nextInt(2);
            case "in": return a == 0 ? random.nextInt(2) : random.nextInt(21);
            case "lead": return random.nextInt(41);
            case "amend": return a == 0 ? random.nextInt(2) : a == 1 ? random.nextInt(random.nextInt(4) > 0 ? 3 : 7) : random.nextInt(6);
            case "coats": case "sure": case "next": return a == 0 ? random.nextInt(2) : random.nextInt(6);
            case "stood": case "kinds": return random.nextInt(6);
            case "sets": case "surely": return random.nextInt(55);
            case "odds": return a == 0 ? random.nextInt(2) : random.nextInt(13);
            case "mid": return random.nextInt(13);
            case "lots": return a == 0 ? 1 + random.nextInt(random.nextInt(3) == 0 ? 20 : 6) : 1 + random.nextInt(2147483646);
            case "count": return random.nextInt(16);
            case "mark": case "player": return random.nextInt(6);
            default: return random.nextInt(4);
        }
    }

    /** The run's last call is left for its end. */
    private void call(String name, Object... args) throws Exception {
        if (calls.size() < CALLS - 1 && !differs) {
            made(name, args);
        }
    }

    private void made(String name, Object... args) throws Exception {
        Class<?>[] types = new Class<?>[args.length];
        Arrays.fill(types, int.class);
        Method ofModel = Model.class.getDeclaredMethod(name, types);
        Method ofProgram = CoatGoals.class.getMethod(name, types);
        String text = name + Arrays.toString(args);
        calls.add(text);
        same(text, ((Number) ofProgram.invoke(program, args)).longValue(),
            ((Number) ofModel.invoke(model, args)).longValue());
    }

    private void same(String call, long got, long want) {
        if (got != want && !differs) {
            differs = true;
            System.out.println("run " + run + ", " + call + " answered " + got + ", the model " + want);
            System.out.println("  behind " + calls);
        }
    }

    private String two(int v) {
        return (v < 10 ? "0" : "") + v;
    }

    private String blanks() {
        return random.nextInt(4) > 0 ? "" : random.nextInt(2) == 0 ? " " : "  ";
    }

    /** A republic, in one of four cases with a sign or the size gone wrong. */
    private void writeRepublic(int t) throws Exception {
        StringBuilder s = new StringBuilder(blanks() + "g" + random.nextInt(2) + blanks());
        for (int end = 0; end < 2; end++) {
            int low = random.nextInt(17);
            int high = Math.min(20, low + 1 + random.nextInt(12));
            s.append("c").append(two(low)).append(blanks()).append("c").append(two(high)).append(blanks());
        }
        int players = 1 + random.nextInt(6);
        for (int i = 0; i < players; i++) {
            s.append(LETTERS.charAt(random.nextInt(6))).append(random.nextInt(2)).append(two(random.nextInt(21)))
                .append(1 + random.nextInt(9)).append(blanks());
        }
        String text = s.substring(0, Math.min(60, s.length()));
        if (random.nextInt(4) == 0) {
            int at = random.nextInt(text.length());
            String signs = "gcpwkhtb0123456789 x";
            text = text.substring(0, at) + signs.charAt(random.nextInt(signs.length())) + text.substring(at + 1);
            text = text.substring(0, random.nextInt(3) == 0 ? random.nextInt(text.length() + 1) : text.length());
        }
        call("text", t, text.length());
        for (int i = 0; i < text.length(); i++) {
            call("put", t, i, (int) text.charAt(i));
        }
        call("fault", t);
        call("republic", t);
    }

    /** Pairs for guesses or traces that can mostly be true. */
    private void writePairs(int r) throws Exception {
        int pairs = random.nextInt(5);
        call("row", r, 2 * pairs);
        boolean guess = random.nextBoolean();
        int end = random.nextInt(2);
        int i = random.nextInt(6);
        int place = random.nextInt(21);
        for (int j = 0; j < pairs; j++) {
            int at = random.nextInt(21);
            int rain = random.nextInt(2);
            int lands = model.lands(i, place, rain);
            call("lay", r, 2 * j, guess ? at : rain);
            call("lay", r, 2 * j + 1, guess ? Math.max(0, model.in(end, at)) : Math.max(0, lands));
        }
        if (guess) {
            call("coats", end, r);
            call("sure", end, r);
            call("next", end, r);
        } else {
            call("stood", i, r);
            call("kinds", i, r);
        }
    }
}
