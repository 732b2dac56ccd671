/** Promises 31 to 33, sentence by sentence: sets, surely, duel. */
final class StrengthEdges {
    private static final int BAD = CoatGoals.BAD, STATE = CoatGoals.STATE, NONE = CoatGoals.NONE, NOUGHT = 4;
    private static final String HEAD = "g0c05c12c03c15";
    private static final String NINES = HEAD + "p0009w0009k0009h1009t1009b1009";
    private static final String ONES = HEAD + "p0001w0001k0001h1001t1001b1001";
    private static final String POWERS = HEAD + "p0001p0002p0004p0008";

    private StrengthEdges() {
    }

    static void run() {
        setsMany();
        setsRefused();
        surelyInEach();
        surelyRefused();
        duelTells();
        duelIfItMayBe();
        duelByTurns();
        duelRefused();
    }

    private static void sets(Sentence s, CoatGoals x, int v, int many, int first) {
        s.tellsPart(x, many, 1, "sets", v);
        s.due("sets(" + v + "), asked()", x.asked(), first);
    }

    private static void setsMany() {
        Sentence s = Sentence.of(31, "How many sets of PLAYERS have a STRENGTH of v (0 .. 54) together,"
            + " told by upper() (lower() is 1); the first by asked() (bits; NONE): 1.");
        CoatGoals nines = Checks.with(NINES);
        // The set of none has a strength of 0.
        sets(s, nines, 0, 1, 0);
        sets(s, nines, 54, 1, 63);
        sets(s, nines, 53, 0, NONE);
        sets(s, nines, 45, 6, 31);
        sets(s, nines, 27, 20, 7);
        sets(s, nines, 9, 6, 1);
        sets(s, nines, 8, 0, NONE);
        CoatGoals ones = Checks.with(ONES);
        sets(s, ones, 0, 1, 0);
        sets(s, ones, 1, 6, 1);
        sets(s, ones, 6, 1, 63);
        sets(s, ones, 7, 0, NONE);
        sets(s, ones, 54, 0, NONE);
        CoatGoals powers = Checks.with(POWERS);
        for (int v = 0; v <= 54; v++) {
            sets(s, powers, v, v <= 15 ? 1 : 0, v <= 15 ? v : NONE);
        }
        CoatGoals one = Checks.with(HEAD + "b1209");
        sets(s, one, 9, 1, 1);
        sets(s, one, 0, 1, 0);
        sets(s, one, 10, 0, NONE);
        // The first of like ones is the one with the least number.
        CoatGoals like = Checks.with(HEAD + "p0003p0002p0001");
        sets(s, like, 3, 2, 1);
    }

    private static void setsRefused() {
        Sentence s = Sentence.of(31, "BAD; STATE: no PLAYERS.");
        for (int v : Sentence.outside(0, 54)) {
            s.refuses(Ready.republic(NINES), BAD, "sets", v);
            s.refuses(Ready.NEW, BAD, "sets", v);
        }
        s.refuses(Ready.NEW, STATE, "sets", 0);
        s.refuses(Ready.NEW, STATE, "sets", 54);
    }

    private static void surelyInEach() {
        Sentence s = Sentence.of(32, "PLAYERS (bits) that are in each such set; those in none by asked().");
        CoatGoals nines = Checks.with(NINES);
        s.answersAndTells(nines, 0, 63, "surely", 0);
        s.answersAndTells(nines, 63, 0, "surely", 54);
        s.answersAndTells(nines, 0, 0, "surely", 45);
        s.answersAndTells(nines, 0, 0, "surely", 9);
        CoatGoals powers = Checks.with(POWERS);
        for (int v = 0; v <= 15; v++) {
            s.answersAndTells(powers, v, 15 & ~v, "surely", v);
        }
        CoatGoals one = Checks.with(HEAD + "b1209");
        s.answersAndTells(one, 1, 0, "surely", 9);
        s.answersAndTells(one, 0, 1, "surely", 0);
        // 14 is 9, 3, 2, or 3, 1, 2, 8; 5 is 3 and 2 alone; 12 is 9, 3, or 9, 1, 2, or 3, 1, 8.
        CoatGoals some = Checks.with(HEAD + "p0009p0003p0001p0002p0008");
        s.answersAndTells(some, Checks.bits(1, 3), 0, "surely", 14);
        s.answersAndTells(some, Checks.bits(1, 3), Checks.bits(0, 2, 4), "surely", 5);
        s.answersAndTells(some, 0, 0, "surely", 12);
    }

    private static void surelyRefused() {
        Sentence s = Sentence.of(32, "BAD; STATE; NOUGHT: there is no set. (In this order.)");
        for (int v : Sentence.outside(0, 54)) {
            s.refuses(Ready.republic(NINES), BAD, "surely", v);
            s.refuses(Ready.NEW, BAD, "surely", v);
        }
        s.refuses(Ready.NEW, STATE, "surely", 0);
        s.refuses(Ready.NEW, STATE, "surely", 54);
        s.finds(Ready.republic(NINES), NOUGHT, "surely", 53);
        s.finds(Ready.republic(NINES), NOUGHT, "surely", 1);
        s.finds(Ready.republic(ONES), NOUGHT, "surely", 7);
        s.finds(Ready.republic(ONES), NOUGHT, "surely", 54);
    }

    private static void duel(Sentence s, String text, int none, int once, int twice) {
        CoatGoals x = Checks.with(text);
        long digest = x.digest();
        s.tells(x, none, "duel", 0);
        s.tells(x, once, "duel", 1);
        s.tells(x, twice, "duel", 2);
        s.answers(x, digest, "digest");
    }

    private static void duelTells() {
        Sentence s = Sentence.of(33, "n (0 .. 2) times each, SIDE 0's begins; then it is a TERM: how many GOALS more SIDE 0 has in it"
            + " than SIDE 1, the first one wanting that to be much, the other one little, told by asked(): 1.");
        duel(s, "g0c03c13c03c13p0081p0081p0081p0081p0081p0081", 6, 6, 6);
        duel(s, "g0c03c13c03c13p1081p1081p1081p1081p1081p1081", -6, -6, -6);
        duel(s, "g0c03c13c03c13p0081p1081", 0, 0, 0);
        duel(s, "g0c03c13c03c13k0081", 0, 0, 0);
        // All six at 10, and but that place between the coats: SIDE 1 has the last word, for itself as against SIDE 0.
        duel(s, "g0c00c01c09c11p0101p0101p0101p0101p0101p0101", 6, 0, 0);
        duel(s, "g0c09c11c00c01p1101p1101p1101p1101p1101p1101", -6, -6, -6);
        // GOALS of earlier TERMS do not count.
        CoatGoals x = Checks.with("g0c00c20c00c20p0101");
        x.term();
        x.term();
        s.tells(x, 1, "duel", 0);
    }

    private static void duelIfItMayBe() {
        Sentence s = Sentence.of(33, "By turns two captains NUDGE a COAT by 1 either way (if it may be), or none,");
        // Balls at both edges: a coat off the common would let one in, and SIDE 0 could guard but one.
        duel(s, "g0c00c20c09c10p1001p1201", 0, 0, 0);
        // Coats side by side can't be drawn closer, and it's best not to draw them apart.
        duel(s, "g1c00c01c09c10p0091p0101", 2, 2, 2);
        duel(s, "g1c09c10c00c01p1091p1101", -2, -2, -2);
        duel(s, "g1c00c01c00c01p0001p0011", 2, 2, 2);
        duel(s, "g1c00c01c19c20p0191p0201", 2, 2, 2);
        // Or none: each nudge that SIDE 0 may do would cost it two, none costs it one.
        duel(s, "g1c09c10c09c10p0091p0091p0101p0101p1081p1111", 4, 3, 3);
    }

    private static void duelByTurns() {
        Sentence s = Sentence.of(33, "By turns two captains NUDGE a COAT by 1 either way (if it may be), or none,");
        // By 1 alone: balls 2 off stay out, though SIDE 1 nudges twice, as SIDE 0 does in between.
        duel(s, "g1c10c12c00c01p1081p1141", 0, 0, 0);
        // SIDE 0 guards against one coat, SIDE 1 moves the other one.
        duel(s, "g1c10c12c00c01p1091p1131", 0, -1, -1);
        // SIDE 0 begins: with the coat drawn one further SIDE 1 can't shut the ball out, nor let its own in.
        duel(s, "g0c00c01c05c12p0061", 1, 1, 1);
        duel(s, "g0c05c12c00c01p1051", 0, 0, 0);
        // Keepers reach where they do, at their own END.
        duel(s, "g1c09c11c09c11p0101p1101k0101", 1, 1, 1);
        duel(s, "g1c09c11c09c11p0101p1101k1101", -1, -1, -1);
        // SIDE 1 has the last word: what SIDE 0 opens it shuts.
        duel(s, "g1c00c01c10c12p0091p0131", 0, 0, 0);
        duel(s, "g1c00c01c10c12p0101p0121", 2, 1, 1);
        duel(s, "g1c00c01c10c14p0101p0121p0141", 3, 2, 2);
    }

    private static void duelRefused() {
        Sentence s = Sentence.of(33, "BAD; STATE: no PLAYERS.");
        for (int n : Sentence.outside(0, 2)) {
            s.refuses(Ready.republic(NINES), BAD, "duel", n);
            s.refuses(Ready.NEW, BAD, "duel", n);
        }
        s.refuses(Ready.NEW, STATE, "duel", 0);
        s.refuses(Ready.NEW, STATE, "duel", 2);
    }
}
