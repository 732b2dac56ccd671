/** What the tests share: comparing answers, and laying rows and texts. */
final class Checks {
    /** Coats at 5, 12, 3, 15; of side 0 a player, a keeper, a captain, of side 1 a winger, a heavy one, a boy. */
    static final String MUDDY = "g0 c05c12c03c15 p0094w1057k0106h1113t0081b1139";

    private static int right = 0;
    private static int wrong = 0;

    private Checks() {
    }

    static void due(String call, long got, long want) {
        if (got == want) {
            right++;
        } else {
            wrong++;
            System.out.println(call + " answered " + got + ", due is " + want);
        }
    }

    /** A call that tells by asked(): answers 1, then what is told. */
    static void told(String call, CoatGoals x, int got, int want) {
        due(call, got, 1);
        due(call + ", asked()", x.asked(), want);
    }

    /** A chance, a mean or a number of sets: answers 1, then both numbers. */
    static void fraction(String call, CoatGoals x, int got, long upper, long lower) {
        due(call, got, 1);
        due(call + ", upper()", x.upper(), upper);
        due(call + ", lower()", x.lower(), lower);
    }

    /** A refusal by a finding: which one, counted once more. */
    static void finds(String call, CoatGoals x, int before, int got, int finding) {
        due(call, got, CoatGoals.FINDING);
        due(call + ", finding()", x.finding(), finding);
        due(call + ", findings(" + finding + ")", x.findings(finding), before + 1);
    }

    static void write(CoatGoals x, int t, String text) {
        x.text(t, text.length());
        for (int i = 0; i < text.length(); i++) {
            x.put(t, i, text.charAt(i));
        }
    }

    static CoatGoals with(String text) {
        CoatGoals x = new CoatGoals();
        write(x, 3, text);
        int players = x.republic(3);
        if (players < 1) {
            wrong++;
            System.out.println("no republic by " + text + ": " + players);
        }
        return x;
    }

    static void row(CoatGoals x, int r, int... values) {
        x.row(r, values.length);
        for (int i = 0; i < values.length; i++) {
            x.lay(r, i, values[i]);
        }
    }

    static void rowIs(String call, CoatGoals x, int r, int... values) {
        for (int i = 0; i < values.length; i++) {
            told(call + ", at(" + r + ", " + i + ")", x, x.at(r, i), values[i]);
        }
        due(call + ", behind its end", x.at(r, values.length), CoatGoals.FINDING);
    }

    /** A place, as a text has it. */
    static String two(int v) {
        return (v < 10 ? "0" : "") + v;
    }

    static int bits(int... places) {
        int bits = 0;
        for (int p : places) {
            bits |= 1 << p;
        }
        return bits;
    }

    static int range(int first, int last) {
        int bits = 0;
        for (int p = first; p <= last; p++) {
            bits |= 1 << p;
        }
        return bits;
    }

    static void finish() {
        System.out.println(right + " answers as due, " + wrong + " not");
        if (wrong != 0 || right == 0) {
            System.exit(1);
        }
    }
}
