import java.util.function.Supplier;

/** Promises 8 to 11, sentence by sentence: text, put, fault, republic. */
final class TextEdges {
    private static final int BAD = CoatGoals.BAD, STATE = CoatGoals.STATE, NONE = CoatGoals.NONE;
    private static final int LEAST = Integer.MIN_VALUE, MOST = Integer.MAX_VALUE;
    private static final int NOTHING = 1, BEYOND = 2, SIZE = 5;
    private static final String ONE = "g1c00c01c19c20p0001";
    private static final String SIX = "g1c00c01c19c20p0001w0002k0003h1004t1005b1006";

    private TextEdges() {
    }

    static void run() {
        textIsThere();
        textBad();
        textSize();
        putIsCut();
        putRefused();
        faultIsNone();
        faultRefused();
        republicByText();
        republicAnew();
        republicRefused();
    }

    /** Texts 0 to 2 of a size, text 3 missing. */
    private static Supplier<CoatGoals> texts(int size) {
        return Ready.then(Ready.NEW, x -> {
            for (int t = 0; t < 3; t++) {
                x.text(t, size);
            }
        });
    }

    private static void textIsThere() {
        Sentence s = Sentence.of(8, "A TEXT is there with n blanks: n.");
        for (int t = 0; t <= 3; t++) {
            for (int n : new int[] {0, 1, 59, 60}) {
                CoatGoals x = new CoatGoals();
                s.answers(x, n, "text", t, n);
                s.answers(x, 1, "count", 14);
                for (int i = 0; i < n; i++) {
                    s.answers(x, 1032, "put", t, i, 5);
                }
                s.answers(x, CoatGoals.FINDING, "put", t, n, 5);
            }
        }
        CoatGoals x = new CoatGoals();
        x.text(3, 60);
        x.put(3, 0, 7);
        x.put(3, 59, 8);
        s.answers(x, 0, "text", 3, 0);
        s.answers(x, 60, "text", 3, 60);
        s.answers(x, 1032, "put", 3, 0, 32);
        s.answers(x, 1032, "put", 3, 59, 32);
        s.answers(x, 1, "count", 14);
    }

    private static void textBad() {
        Sentence s = Sentence.of(8, "BAD: also n above 60");
        for (int n : new int[] {61, 62, MOST}) {
            s.refuses(texts(3), BAD, "text", 0, n);
            s.refuses(texts(3), BAD, "text", 3, n);
        }
        for (int t : Sentence.outside(0, 3)) {
            for (int n : new int[] {0, 60, 61, -1, LEAST}) {
                s.refuses(texts(3), BAD, "text", t, n);
            }
        }
    }

    private static void textSize() {
        Sentence s = Sentence.of(8, "SIZE: below 0");
        s.finds(texts(3), SIZE, "text", 0, -1);
        s.finds(texts(3), SIZE, "text", 0, LEAST);
        s.finds(texts(3), SIZE, "text", 3, -1);
        s.answers(new CoatGoals(), 0, "text", 0, 0);
    }

    private static void putIsCut() {
        Sentence s = Sentence.of(9, "Byte i of a TEXT is v, cut to a byte: what it was, and 1000 more.");
        int[] values = {127, 128, 129, 255, 256, 257, -1, -127, -128, -129, -256, LEAST, LEAST + 1, MOST, MOST - 1};
        int[] bytes = {127, -128, -127, -1, 0, 1, -1, -127, -128, 127, 0, 0, 1, -1, -2};
        for (int j = 0; j < values.length; j++) {
            for (int i : new int[] {0, 59}) {
                CoatGoals x = new CoatGoals();
                x.text(3, 60);
                s.answers(x, 1032, "put", 3, i, values[j]);
                s.answers(x, 1000 + bytes[j], "put", 3, i, 0);
                s.answers(x, 1000, "put", 3, i, 0);
                s.answers(x, 1032, "put", 3, 59 - i, 0);
            }
        }
        CoatGoals all = new CoatGoals();
        all.text(0, 1);
        all.put(0, 0, -128);
        for (int b = -128; b < 127; b++) {
            s.answers(all, 1000 + b, "put", 0, 0, b + 1);
        }
    }

    private static void putRefused() {
        Sentence s = Sentence.of(9, "BAD; NOTHING; BEYOND.");
        for (int t : Sentence.outside(0, 3)) {
            s.refuses(texts(3), BAD, "put", t, 0, 1);
            s.refuses(texts(3), BAD, "put", t, 3, 1);
        }
        for (int i : new int[] {0, 3, -1, LEAST, MOST}) {
            s.finds(texts(3), NOTHING, "put", 3, i, 1);
        }
        for (int size : new int[] {0, 1, 60}) {
            for (int i : Sentence.outside(0, size - 1)) {
                s.finds(texts(size), BEYOND, "put", 2, i, 1);
            }
        }
    }

    private static void faultIsNone() {
        Sentence s = Sentence.of(10, "A FAULT of a TEXT; NONE: there is none.");
        for (int t = 0; t <= 3; t++) {
            CoatGoals x = new CoatGoals();
            x.text(t, 0);
            s.answers(x, 0, "fault", t);
            x.text(t, 60);
            s.answers(x, 60, "fault", t);
            Checks.write(x, t, ONE);
            s.answers(x, NONE, "fault", t);
            s.answers(x, NONE, "fault", t);
            x.put(t, 18, '0');
            s.answers(x, 18, "fault", t);
            x.put(t, 0, 'G');
            s.answers(x, 0, "fault", t);
        }
        // It is looked at alone: no REPUBLIC comes of it, nor does one go.
        CoatGoals x = Checks.with(SIX);
        Checks.write(x, 0, ONE);
        CoatGoals twin = Checks.with(SIX);
        Checks.write(twin, 0, ONE);
        s.answers(x, NONE, "fault", 0);
        Twins.alike(s, "fault(0)", x, twin, 0);
    }

    private static void faultRefused() {
        Sentence s = Sentence.of(10, "BAD; NOTHING.");
        for (int t : Sentence.outside(0, 3)) {
            s.refuses(texts(3), BAD, "fault", t);
        }
        s.finds(texts(3), NOTHING, "fault", 3);
        s.finds(Ready.NEW, NOTHING, "fault", 0);
    }

    private static void republicByText() {
        Sentence s = Sentence.of(11, ": how many PLAYERS.");
        for (int players = 1; players <= 6; players++) {
            CoatGoals x = new CoatGoals();
            int t = players % 4;
            Checks.write(x, t, SIX.substring(0, 14 + 5 * players));
            s.answers(x, players, "republic", t);
            s.answers(x, players, "count", 0);
            s.answers(x, 1, "player", players - 1, 0);
            s.answers(x, BAD, "player", players, 0);
        }
    }

    /** All that a text can bring and deeds can change, kept in all places. */
    private static CoatGoals wornOut() {
        CoatGoals x = Checks.with("g0 c05c12c03c15 p0094w1057k0106h1113t0081b1139");
        x.row(0, 0);
        x.coats(1, 0);
        for (int d = 0; d < 37; d++) {
            x.term();
        }
        x.rain(1);
        x.stand(5, 0);
        x.nudge(3, 3);
        for (int k = 0; k <= 2; k++) {
            x.keep(k);
        }
        return x;
    }

    private static void republicAnew() {
        Sentence s = Sentence.of(11, "A REPUBLIC by a TEXT (anew: TERM 0, no GOALS, no RAIN, no DEEDS; kept REPUBLICS go)");
        CoatGoals x = wornOut();
        int asked = x.asked();
        long upper = x.upper();
        Checks.write(x, 0, ONE);
        s.answers(x, 1, "republic", 0);
        int[] counts = {1, 1, 0, 0, 0, 0, 1, 19, 20, 0, 0, 0, 0, 1, 2, 0};
        for (int what = 0; what <= 15; what++) {
            s.answers(x, counts[what], "count", what);
        }
        for (int k = 0; k <= 2; k++) {
            s.answers(x, CoatGoals.FINDING, "on", k);
        }
        s.answers(x, 0, "undo", 0);
        s.answers(x, BAD, "undo", 1);
        s.answers(x, asked, "asked");
        s.answers(x, upper, "upper");
        // By the same TEXT again, too.
        CoatGoals again = wornOut();
        s.answers(again, 6, "republic", 3);
        s.answers(again, 0, "count", 3);
        s.answers(again, 15, "count", 8);
        s.answers(again, 0, "count", 15);
        // No GOALS of either SIDE.
        CoatGoals both = Checks.with("g0c00c20c00c20p0101p1101p1101");
        both.term();
        s.answers(both, 3, "republic", 3);
        s.answers(both, 0, "count", 9);
        s.answers(both, 0, "count", 10);
        // Later changes of the TEXT leave it.
        again.text(3, 0);
        s.answers(again, 6, "count", 0);
    }

    private static void republicRefused() {
        Sentence s = Sentence.of(11, "BAD; NOTHING; STATE: a FAULT. (STATE behind NOTHING.)");
        for (int t : Sentence.outside(0, 3)) {
            s.refuses(TextEdges::wornOut, BAD, "republic", t);
            s.refuses(Ready.NEW, BAD, "republic", t);
        }
        s.finds(TextEdges::wornOut, NOTHING, "republic", 0);
        s.finds(Ready.NEW, NOTHING, "republic", 3);
        String[] faulty = {"", " ", ONE.substring(0, 14), ONE.substring(0, 18), SIX + "p0001", SIX + "x",
            "g1c00c00c19c20p0001", "g2c00c01c19c20p0001", "g1c00c01c19c20p0000", "g1c00c01c19c20p0211"};
        for (String text : faulty) {
            Supplier<CoatGoals> ready = Ready.then(TextEdges::wornOut, x -> Checks.write(x, 2, text));
            s.refuses(ready, STATE, "republic", 2);
        }
    }
}
