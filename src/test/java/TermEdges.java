import java.lang.reflect.Method;
import java.lang.reflect.Modifier;
import java.util.List;
import java.util.function.Supplier;

/** The section "Terms", sentence by sentence, where it says what is refused, found and told. */
final class TermEdges {
    private static final int BAD = CoatGoals.BAD, FULL = CoatGoals.FULL, STATE = CoatGoals.STATE;
    private static final int LEAST = Integer.MIN_VALUE, MOST = Integer.MAX_VALUE;
    private static final String MUDDY = Checks.MUDDY;
    private static final int[] NEAR_EDGES = {LEAST, LEAST + 1, -10, -4, -3, -1, 0, 1, 2, 3, 4, 5, 6, 7, 8, 12, 13, 16, 20, 21,
        40, 41, 54, 55, 60, 61, MOST - 1, MOST};
    private static final int[] FEW_EDGES = {LEAST, -1, 0, 1, 5, 6, MOST};

    private TermEdges() {
    }

    static void run() {
        constants();
        order();
        refusedChangesNothing();
        findings();
        lowestTerms();
        setsByBits();
        rowsAndTexts();
        calls512();
    }

    private static void constants() {
        Sentence s = Sentence.ofTerms("NONE -9.");
        s.due("NONE", CoatGoals.NONE, -9);
    }

    private static void order() {
        Sentence s = Sentence.ofTerms("Refused is, the first of these that fits, in this order: BAD -1 (a number that is none, or not as told),"
            + " FULL -2, STATE -4 (not now), SPENT -6 (more than told), FINDING -3 (finding() tells which), unless a call says so otherwise.");
        s.due("BAD", BAD, -1);
        s.due("FULL", FULL, -2);
        s.due("STATE", STATE, -4);
        s.due("SPENT", CoatGoals.SPENT, -6);
        s.due("FINDING", CoatGoals.FINDING, -3);
        Supplier<CoatGoals> full = Ready.deeds(MUDDY, 40);
        // BAD ahead of FULL, of STATE, of a FINDING; STATE ahead of a FINDING.
        s.refuses(full, BAD, "nudge", 4, 1);
        s.refuses(full, BAD, "rain", 2);
        s.refuses(full, BAD, "stand", 6, 9);
        s.refuses(full, BAD, "lots", 0, 1);
        s.refuses(Ready.NEW, BAD, "nudge", 0, 0);
        s.refuses(Ready.NEW, BAD, "keep", 3);
        s.refuses(Ready.NEW, BAD, "coats", 2, 0);
        s.refuses(Ready.NEW, BAD, "copy", 0, 0, 6, 0, -1);
        s.refuses(Ready.republic(MUDDY), BAD, "mark", 0, 6);
        s.refuses(Ready.NEW, STATE, "coats", 0, 0);
        s.refuses(Ready.NEW, STATE, "surely", 54);
        // Otherwise, as the calls say: FULL last, a FAULT behind NOTHING.
        s.refuses(full, STATE, "rain", 0);
        s.finds(Ready.NEW, 1, "republic", 0);
    }

    private static List<Supplier<CoatGoals>> states() {
        return List.of(
            Ready.NEW,
            Ready.then(Ready.NEW, x -> {
                Checks.row(x, 0, 5, -6);
                x.row(5, 40);
                x.text(1, 60);
                x.mean(0);
                x.tear(3);
            }),
            Ready.then(Ready.republic("g1c00c01c19c20p0201"), x -> {
                Checks.row(x, 1, 21, 1);
                x.row(2, 17);
                x.row(5, 0);
                x.odds(0, 5);
                x.keep(2);
            }),
            Ready.then(Ready.deeds(MUDDY, 40), x -> {
                Checks.row(x, 0, 7, 1, 7, 0);
                x.mid(5);
                x.undo(38);
                x.rain(1);
                x.nudge(0, -3);
            }));
    }

    /** A state, and what it shows ahead of a call. */
    private static final class Before {
        final Supplier<CoatGoals> ready;
        final String seen;
        final String found;

        Before(Supplier<CoatGoals> ready) {
            this.ready = ready;
            seen = seenOf(ready.get());
            found = foundOf(ready.get());
        }
    }

    private static String seenOf(CoatGoals x) {
        return x.digest() + " " + x.asked() + " " + x.upper() + " " + x.lower();
    }

    private static String foundOf(CoatGoals x) {
        return x.finding() + " " + x.findings(1) + " " + x.findings(2) + " " + x.findings(3) + " " + x.findings(4) + " " + x.findings(5);
    }

    /** Every call with all numbers near an edge, in several states: none throws, and a refused one changes nothing. */
    private static void refusedChangesNothing() {
        Sentence s = Sentence.ofTerms("What is refused changes nothing but finding(), findings().");
        List<String> tell = List.of("asked", "upper", "lower", "finding", "digest");
        for (Supplier<CoatGoals> ready : states()) {
            Before before = new Before(ready);
            for (Method m : CoatGoals.class.getDeclaredMethods()) {
                if (Modifier.isPublic(m.getModifiers()) && !tell.contains(m.getName())) {
                    int[] numbers = m.getParameterCount() > 2 ? FEW_EDGES : NEAR_EDGES;
                    callAll(s, before, m.getName(), new int[m.getParameterCount()], 0, numbers);
                }
            }
        }
    }

    private static void callAll(Sentence s, Before before, String name, int[] args, int at, int[] numbers) {
        if (at < args.length) {
            for (int v : numbers) {
                args[at] = v;
                callAll(s, before, name, args, at + 1, numbers);
            }
            return;
        }
        CoatGoals x = before.ready.get();
        long answer = Sentence.call(x, name, args);
        if (answer < 0 && answer != CoatGoals.NONE) {
            String call = Sentence.named(name, args) + " answered " + answer;
            boolean isFound = !foundOf(x).equals(before.found);
            boolean isRefusal = answer == BAD || answer == FULL || answer == STATE || answer == CoatGoals.FINDING;
            s.due(call + ", the rest as it was", seenOf(x).equals(before.seen) ? 1 : 0, 1);
            s.due(call + ", a FINDING", isFound ? 1 : 0, answer == CoatGoals.FINDING ? 1 : 0);
            s.due(call + ", a refusal", isRefusal ? 1 : 0, 1);
        }
    }

    private static void findings() {
        Sentence nothing = Sentence.ofTerms("FINDINGS: 1 NOTHING (a ROW, a TEXT, a kept REPUBLIC that is missing),");
        nothing.finds(Ready.NEW, 1, "at", 0, 0);
        nothing.finds(Ready.NEW, 1, "put", 0, 0, 0);
        nothing.finds(Ready.NEW, 1, "on", 0);
        Sentence beyond = Sentence.ofTerms("2 BEYOND (a place of a ROW, a TEXT that there is not),");
        Supplier<CoatGoals> empty = Ready.then(Ready.republic(MUDDY), x -> {
            x.row(0, 0);
            x.text(0, 0);
        });
        beyond.finds(empty, 2, "at", 0, 0);
        beyond.finds(empty, 2, "put", 0, 0, 0);
        Sentence unlike = Sentence.ofTerms("3 UNLIKE (a PLAYER of another KIND; a number that is none),");
        unlike.finds(empty, 3, "mark", 0, 1);
        unlike.finds(Ready.then(empty, x -> Checks.row(x, 1, 21, 1)), 3, "coats", 0, 1);
        unlike.finds(Ready.then(empty, x -> Checks.row(x, 1, 2, 20)), 3, "stood", 0, 1);
        Sentence nought = Sentence.ofTerms("4 NOUGHT (shared among none; nothing fits),");
        nought.finds(empty, 4, "mean", 0);
        nought.finds(empty, 4, "surely", 54);
        Sentence size = Sentence.ofTerms("5 SIZE (fewer than none; too many, not as many as due).");
        size.finds(empty, 5, "row", 0, -1);
        size.finds(empty, 5, "text", 0, -1);
        size.finds(empty, 5, "copy", 0, 0, 0, 0, -1);
        size.finds(Ready.then(empty, x -> x.row(1, 18)), 5, "next", 0, 1);
        size.finds(Ready.then(empty, x -> x.row(1, 1)), 5, "kinds", 0, 1);
    }

    private static void lowestTerms() {
        Sentence s = Sentence.ofTerms("Chances, means, numbers of sets are told by upper(), lower(), in lowest terms,"
            + " the lower number above 0 (0 by 1).");
        CoatGoals x = Checks.with("g0c00c01c05c08p0071");
        int[] upper = {1, 11, 5, 3, 2, 7, 1, 5, 1, 1, 1, 1, 0};
        int[] lower = {1, 12, 6, 4, 3, 12, 2, 12, 3, 4, 6, 12, 1};
        for (int p = 0; p <= 12; p++) {
            s.tellsPart(x, upper[p], lower[p], "odds", 0, p);
            s.tellsPart(x, upper[p], lower[p], "mid", p);
            s.tellsPart(x, 0, 1, "odds", 1, p);
        }
        s.tellsPart(x, 1, 1, "sets", 0);
        s.tellsPart(x, 0, 1, "sets", 54);
        // Means above 1 as well.
        CoatGoals many = Checks.with("g0c05c08c05c08p0071p1071p0061p1061");
        s.tellsPart(many, 4, 1, "mid", 0);
        s.tellsPart(many, 3, 1, "mid", 6);
        s.tellsPart(many, 7, 2, "mid", 3);
        s.tellsPart(many, 2, 1, "mid", 12);
    }

    private static void setsByBits() {
        Sentence s = Sentence.ofTerms("Sets (of PLAYERS, of KINDS, of PLACES 0 .. 20) are told by bits.");
        CoatGoals x = Checks.with("g1c00c20c00c20p0001p1001p0201p1201w0209h1001");
        x.row(0, 0);
        s.answers(x, 63, "term");
        s.answers(x, 63, "kinds", 0, 0);
        s.answers(x, (1 << 21) - 1, "stood", 0, 0);
        Checks.row(x, 0, 0, 20);
        s.answers(x, 1 << 20, "stood", 0, 0);
        Checks.row(x, 0, 0, 0);
        s.answers(x, 1, "stood", 0, 0);
        s.answers(x, Checks.bits(0, 3, 4), "kinds", 0, 0);
    }

    private static void rowsAndTexts() {
        Sentence s = Sentence.ofTerms("ROWS 0 .. 5 are rows of 0 to 40 ints, TEXTS 0 .. 3 rows of 0 to 60 bytes, or missing (at first).");
        CoatGoals x = new CoatGoals();
        for (int r = 0; r <= 5; r++) {
            s.answers(x, r, "count", 13);
            s.finds(Ready.NEW, 1, "tear", r);
            s.answers(x, 40, "row", r, 40);
        }
        for (int t = 0; t <= 3; t++) {
            s.answers(x, t, "count", 14);
            s.finds(Ready.NEW, 1, "fault", t);
            s.answers(x, 60, "text", t, 60);
        }
        // Each holds what is its own.
        for (int r = 0; r <= 5; r++) {
            s.tells(x, 0, "lay", r, 39, 100 + r);
        }
        for (int r = 0; r <= 5; r++) {
            s.tells(x, 100 + r, "at", r, 39);
        }
        for (int t = 0; t <= 3; t++) {
            s.answers(x, 1032, "put", t, 59, 100 + t);
        }
        for (int t = 0; t <= 3; t++) {
            s.answers(x, 1100 + t, "put", t, 59, 0);
        }
        for (int n : new int[] {0, 40}) {
            s.answers(new CoatGoals(), n, "row", 0, n);
        }
        s.answers(new CoatGoals(), BAD, "row", 0, 41);
        s.answers(new CoatGoals(), BAD, "row", 6, 40);
        for (int n : new int[] {0, 60}) {
            s.answers(new CoatGoals(), n, "text", 0, n);
        }
        s.answers(new CoatGoals(), BAD, "text", 0, 61);
        s.answers(new CoatGoals(), BAD, "text", 4, 60);
    }

    private static void calls512() {
        Sentence s = Sentence.ofWhat("An object is used for at most 512 calls after it has been made");
        CoatGoals x = new CoatGoals();
        s.answers(x, 1, "row", 0, 1);
        for (int call = 2; call < 512; call++) {
            s.answers(x, 1, "lay", 0, 0, call);
        }
        s.answers(x, 510, "asked");
    }
}
