import java.math.BigInteger;
import java.util.ArrayList;
import java.util.List;
import java.util.function.Supplier;

/** Promises 37 to 43, sentence by sentence: asked, upper, lower, count, finding, findings, digest. */
final class ToldEdges {
    private static final int BAD = CoatGoals.BAD, NONE = CoatGoals.NONE;
    private static final String MUDDY = Checks.MUDDY;

    private ToldEdges() {
    }

    static void run() {
        askedBefore();
        askedLatest();
        askedLeft();
        upperAndLowerBefore();
        upperAndLowerLatest();
        upperAndLowerLeft();
        counts();
        countBad();
        findingLatest();
        findingsOften();
        findingsBad();
        digestOfNothing();
        digestOfAll();
    }

    private static void askedBefore() {
        Sentence s = Sentence.of(37, "; 0 before.");
        s.answers(new CoatGoals(), 0, "asked");
        CoatGoals x = Checks.with(MUDDY);
        x.term();
        x.at(0, 0);
        x.player(6, 0);
        s.answers(x, 0, "asked");
    }

    /** 777 was told last; row 0 has it alone, row 1 a pair with no coats, row 2 none; row 3 is missing. */
    private static CoatGoals told() {
        CoatGoals x = Checks.with(MUDDY);
        Checks.row(x, 0, 777);
        Checks.row(x, 1, 7, 1, 7, 0);
        x.row(2, 0);
        x.at(0, 0);
        return x;
    }

    private static void askedLatest() {
        Sentence s = Sentence.of(37, "What the latest lay(), at(), mean(), player(), lead(), coats(), sure(), next(), sets(), surely(), duel()");
        s.tells(told(), 7, "lay", 1, 0, 9);
        s.tells(told(), 0, "at", 1, 3);
        s.tells(told(), 3, "mean", 1);
        s.tells(told(), 9, "player", 0, 2);
        s.tells(told(), NONE, "player", 0, 6);
        s.tells(told(), 40, "lead", 40);
        s.tells(told(), 1, "coats", 0, 2);
        s.tells(told(), NONE, "coats", 0, 1);
        s.answersAndTells(told(), 0, Checks.bits(0, 8, 9, 10, 11, 12, 20), "sure", 0, 2);
        s.answersAndTells(told(), 7, 119, "next", 0, 2);
        s.tells(told(), NONE, "sets", 54);
        s.answersAndTells(told(), 63, 0, "surely", 30);
        s.tells(told(), 1, "duel", 0);
    }

    private static void left(Sentence s, CoatGoals x, String name, int... args) {
        int asked = x.asked();
        Sentence.call(x, name, args);
        s.due(Sentence.named(name, args) + " leaves asked()", x.asked(), asked);
    }

    private static void askedLeft() {
        Sentence s = Sentence.of(37, "that was not refused (nor NONE) told");
        int[][] refused = {{-1, 0}, {6, 0}, {3, 0}, {0, 1}, {0, -1}};
        for (int[] args : refused) {
            left(s, told(), "at", args);
            left(s, told(), "lay", args[0], args[1], 5);
        }
        for (int r : new int[] {-1, 6, 3, 2}) {
            left(s, told(), "mean", r);
        }
        left(s, told(), "player", 6, 0);
        left(s, told(), "player", 0, 7);
        left(s, told(), "lead", 41);
        for (String guess : new String[] {"coats", "sure", "next"}) {
            left(s, told(), guess, 2, 2);
            left(s, told(), guess, 0, 3);
            left(s, told(), guess, 0, 0);
        }
        left(s, told(), "next", 0, 1);
        left(s, told(), "sets", 55);
        left(s, told(), "surely", 55);
        left(s, told(), "surely", 54);
        left(s, told(), "duel", 3);
        // All others do not tell by asked(), refused or not.
        left(s, told(), "row", 4, 3);
        left(s, told(), "tear", 0);
        left(s, told(), "copy", 1, 0, 1, 2, 2);
        left(s, told(), "text", 0, 3);
        left(s, told(), "put", 3, 0, 5);
        for (String of : new String[] {"fault", "republic"}) {
            left(s, told(), of, 3);
        }
        left(s, told(), "mark", 1, 1);
        left(s, told(), "term");
        left(s, told(), "nudge", 0, 1);
        left(s, told(), "rain", 1);
        left(s, told(), "stand", 0, 1);
        left(s, told(), "undo", 0);
        left(s, told(), "keep", 0);
        left(s, told(), "on", 0);
        left(s, told(), "lands", 0, 1, 1);
        left(s, told(), "in", 1, 7);
        left(s, told(), "seen", 0);
        left(s, told(), "amend", 0, 1, 0);
        left(s, told(), "stood", 0, 2);
        left(s, told(), "kinds", 0, 2);
        left(s, told(), "odds", 0, 5);
        left(s, told(), "mid", 5);
        left(s, told(), "lots", 20, 1);
        for (int what = 0; what <= 15; what++) {
            left(s, told(), "count", what);
        }
        for (String of : new String[] {"upper", "lower", "finding", "digest"}) {
            left(s, told(), of);
        }
        left(s, told(), "findings", 1);
    }

    private static void upperAndLowerBefore() {
        Sentence upper = Sentence.of(38, "; 0 before.");
        Sentence lower = Sentence.of(39, "; 1 before.");
        CoatGoals x = Checks.with(MUDDY);
        x.odds(0, 13);
        x.sets(55);
        upper.answers(new CoatGoals(), 0, "upper");
        upper.answers(x, 0, "upper");
        lower.answers(new CoatGoals(), 1, "lower");
        lower.answers(x, 1, "lower");
    }

    private static void upperAndLowerLatest() {
        Sentence upper = Sentence.of(38, "The upper number that was told last");
        Sentence lower = Sentence.of(39, "Its lower number");
        CoatGoals x = told();
        upper.tellsPart(x, 7, 12, "mid", 5);
        upper.tellsPart(x, 210, 1, "coats", 0, 2);
        lower.tellsPart(x, 7, 12, "odds", 0, 5);
        lower.tellsPart(x, 1, 1, "sets", 30);
        lower.tellsPart(x, 0, 1, "coats", 0, 1);
        lower.tellsPart(x, 0, 1, "odds", 1, 5);
        // The greatest lower number there is: 12 to the 6th.
        CoatGoals six = Checks.with("g0c00c20c05c08p0071p0071p0071p0071p0071p0071");
        lower.tellsPart(six, 2985984 - 117649, 2985984, "odds", 0, 7);
        upper.tellsPart(six, 2985984 - 1, 2985984, "odds", 0, 1);
    }

    private static void upperAndLowerLeft() {
        Sentence upper = Sentence.of(38, "The upper number that was told last");
        Sentence lower = Sentence.of(39, "Its lower number");
        Supplier<CoatGoals> ready = Ready.then(ToldEdges::told, x -> x.mid(5));
        String[] names = {"sure", "next", "surely", "lead", "duel", "odds", "mid", "sets", "coats", "coats", "coats", "term",
            "digest", "at", "stood"};
        int[][] args = {{0, 2}, {0, 2}, {30}, {40}, {2}, {0, 13}, {13}, {55}, {2, 2}, {0, 3}, {0, 0}, {}, {}, {0, 0}, {0, 2}};
        for (int j = 0; j < names.length; j++) {
            CoatGoals x = ready.get();
            Sentence.call(x, names[j], args[j]);
            upper.due(Sentence.named(names[j], args[j]) + " leaves upper()", x.upper(), 7);
            lower.due(Sentence.named(names[j], args[j]) + " leaves lower()", x.lower(), 12);
        }
    }

    private static void counted(Sentence s, CoatGoals x, int... counts) {
        for (int what = 0; what <= 15; what++) {
            s.answers(x, counts[what], "count", what);
        }
    }

    private static void counts() {
        Sentence s = Sentence.of(40, "0 PLAYERS, 1 the SCHOOL, 2 the number of the next TERM, 3 DEEDS, 4 RAIN (1, 0),"
            + " 5 to 8 PLACES of COATS 0 to 3, 9, 10 GOALS of SIDES 0, 1, 11 WINGERS (CAPTAINS, too), 12 KEEPERS (BOYS, too),"
            + " 13 ROWS, 14 TEXTS that are there, 15 kept REPUBLICS.");
        counted(s, new CoatGoals(), new int[16]);
        CoatGoals x = Checks.with("g1c00c20c19c20w0011t1201w0011t1201w0011t1201");
        counted(s, x, 6, 1, 0, 0, 0, 0, 20, 19, 20, 0, 0, 6, 0, 0, 1, 0);
        for (int d = 0; d < 40; d++) {
            x.term();
        }
        for (int k = 0; k <= 2; k++) {
            x.keep(k);
        }
        for (int r = 0; r <= 5; r++) {
            x.row(r, 40);
        }
        for (int t = 0; t <= 3; t++) {
            x.text(t, 0);
        }
        counted(s, x, 6, 1, 40, 40, 0, 0, 20, 19, 20, 0, 120, 6, 0, 6, 4, 3);
        x.undo(39);
        x.rain(1);
        x.tear(0);
        x.tear(5);
        counted(s, x, 6, 1, 39, 40, 1, 0, 20, 19, 20, 0, 117, 6, 0, 4, 4, 3);
        CoatGoals y = Checks.with("g0c19c20c00c20k0011b1201k0011b1201k0011b1201");
        counted(s, y, 6, 0, 0, 0, 0, 19, 20, 0, 20, 0, 0, 0, 6, 0, 1, 0);
        CoatGoals none = Checks.with("g0c19c20c00c20p0011h1201p0191p0191p0191p0191");
        none.term();
        counted(s, none, 6, 0, 1, 1, 0, 19, 20, 0, 20, 5, 0, 0, 0, 0, 1, 0);
        CoatGoals one = Checks.with("g0c19c20c00c20b0011");
        counted(s, one, 1, 0, 0, 0, 0, 19, 20, 0, 20, 0, 0, 0, 1, 0, 1, 0);
    }

    private static void countBad() {
        Sentence s = Sentence.of(40, "BAD.");
        for (int what : Sentence.outside(0, 15)) {
            s.refuses(Ready.republic(MUDDY), BAD, "count", what);
            s.refuses(Ready.NEW, BAD, "count", what);
        }
    }

    /** One call for each finding, 1 to 5, with told(). */
    private static void find(CoatGoals x, int f) {
        switch (f) {
            case 1:
                x.at(3, 0);
                break;
            case 2:
                x.at(0, 1);
                break;
            case 3:
                x.mark(0, 1);
                break;
            case 4:
                x.mean(2);
                break;
            default:
                x.row(0, -1);
                break;
        }
    }

    private static void findingLatest() {
        Sentence s = Sentence.of(41, "The latest FINDING (0 before any).");
        s.answers(new CoatGoals(), 0, "finding");
        CoatGoals x = told();
        x.at(6, 0);
        x.rain(0);
        s.answers(x, 0, "finding");
        for (int f : new int[] {1, 2, 3, 4, 5, 5, 3, 1}) {
            find(x, f);
            s.answers(x, f, "finding");
            s.answers(x, f, "finding");
        }
        // It stays, whatever is answered or refused otherwise.
        x.at(0, 0);
        x.at(6, 0);
        x.rain(0);
        x.republic(3);
        s.answers(x, 1, "finding");
    }

    private static void findingsOften() {
        Sentence s = Sentence.of(42, "How often a FINDING (1 .. 5) was answered.");
        CoatGoals x = told();
        for (int f = 1; f <= 5; f++) {
            s.answers(x, 0, "findings", f);
            for (int n = 0; n < f; n++) {
                find(x, f);
            }
        }
        for (int f = 1; f <= 5; f++) {
            s.answers(x, f, "findings", f);
        }
        x.republic(3);
        s.answers(x, 5, "findings", 5);
        CoatGoals often = new CoatGoals();
        for (int n = 0; n < 500; n++) {
            often.tear(5);
        }
        s.answers(often, 500, "findings", 1);
    }

    private static void findingsBad() {
        Sentence s = Sentence.of(42, "BAD.");
        for (int f : Sentence.outside(1, 5)) {
            s.refuses(Ready.NEW, BAD, "findings", f);
            s.refuses(Ready.then(ToldEdges::told, x -> find(x, 3)), BAD, "findings", f);
        }
    }

    /** Worked out without any wrapping, and cut to a long at last. */
    private static long digestOf(List<Integer> values) {
        BigInteger h = BigInteger.valueOf(17);
        for (int v : values) {
            h = h.multiply(BigInteger.valueOf(31)).add(BigInteger.valueOf(v));
        }
        return h.longValue();
    }

    private static void add(List<Integer> values, int... more) {
        for (int v : more) {
            values.add(v);
        }
    }

    private static void digestOfNothing() {
        Sentence s = Sentence.of(43, "of each kept REPUBLIC how many DEEDS (-1: missing); of each ROW its size (-1: missing) and places,"
            + " of each TEXT likewise.");
        List<Integer> values = new ArrayList<>();
        add(values, new int[16]);
        add(values, -1, -1, -1, -1, -1, -1, -1, -1, -1, -1, -1, -1, -1);
        s.answers(new CoatGoals(), digestOf(values), "digest");
        // Empty is not missing; kept with no DEEDS is not missing.
        CoatGoals x = Checks.with("g0c19c20c00c20b0011");
        x.keep(2);
        x.row(0, 0);
        x.row(5, 1);
        x.text(3, 1);
        x.put(3, 0, 128);
        x.text(0, 0);
        values.clear();
        add(values, 1, 0, 0, 0, 0, 19, 20, 0, 20, 0, 0, 0, 1, 2, 2, 1);
        add(values, 5, 0, 1, 1, NONE, 0, 1);
        add(values, -1, -1, 0);
        add(values, 0, -1, -1, -1, -1, 1, 0);
        add(values, 0, -1, -1, 1, -128);
        s.answers(x, digestOf(values), "digest");
    }

    private static void digestOfAll() {
        Sentence s = Sentence.of(43, "h = 17; then h = 31 h + v for each v: count() 0 to 15; of each PLAYER player() 0 to 6;");
        CoatGoals x = Checks.with(MUDDY);
        List<Integer> values = new ArrayList<>();
        for (int d = 0; d < 40; d++) {
            x.term();
        }
        for (int k = 0; k <= 2; k++) {
            x.keep(k);
        }
        add(values, 6, 0, 40, 40, 0, 5, 12, 3, 15, 40, 0, 2, 2, 6, 4, 3);
        int[][] players = {{0, 0, 9, 4, 9, 0, NONE}, {1, 1, 5, 7, 12, 0, NONE}, {2, 0, 10, 6, NONE, 0, 2},
            {3, 1, 11, 3, 11, 0, NONE}, {4, 0, 8, 1, 8, 1, NONE}, {5, 1, 13, 9, NONE, 0, 4}};
        for (int[] player : players) {
            add(values, player);
        }
        add(values, 40, 40, 40);
        // Full rows of the least and the greatest ints, full texts of the least and the greatest bytes.
        for (int r = 0; r <= 5; r++) {
            x.row(r, 40);
            add(values, 40);
            for (int i = 0; i < 40; i++) {
                int v = i >= 4 ? 0 : (i + r) % 2 == 0 ? Integer.MIN_VALUE : Integer.MAX_VALUE;
                if (v != 0) {
                    x.lay(r, i, v);
                }
                add(values, v);
            }
        }
        for (int t = 0; t <= 3; t++) {
            x.text(t, 60);
            add(values, 60);
            for (int i = 0; i < 60; i++) {
                int v = i >= 4 ? 32 : (i + t) % 2 == 0 ? -128 : 127;
                if (v != 32) {
                    x.put(t, i, v);
                }
                add(values, v);
            }
        }
        s.answers(x, digestOf(values), "digest");
        s.answers(x, digestOf(values), "digest");
    }
}
