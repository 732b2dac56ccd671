/** Promises 14 to 20: term, nudge, rain, stand, undo, keep, on. */
public final class DeedsTest {
    public static void main(String[] args) {
        terms();
        nudges();
        edgesOfNudges();
        rains();
        stands();
        full();
        undo();
        keepAndOn();
        withoutPlayers();
        Checks.finish();
    }

    private static void state(String call, CoatGoals x, int... counts2to10) {
        for (int j = 0; j < counts2to10.length; j++) {
            Checks.due(call + ", count(" + (j + 2) + ")", x.count(j + 2), counts2to10[j]);
        }
    }

    private static void terms() {
        CoatGoals x = Checks.with(Checks.MUDDY);
        Checks.due("term()", x.term(), Checks.bits(4));
        state("term()", x, 1, 1, 0, 5, 12, 3, 15, 1, 0);
        Checks.due("a ball just inside", Checks.with("g0 c00c01c05c08 p0071").term(), 1);
        CoatGoals both = Checks.with("g1 c05c07c10c12 p0101p0121p0131p1051w1016p1041");
        Checks.due("term()", both.term(), Checks.bits(0, 1, 3, 4));
        Checks.due("term() again", both.term(), Checks.bits(0, 1, 3, 4));
        state("two terms", both, 2, 2, 0, 5, 7, 10, 12, 4, 4);
    }

    private static void nudges() {
        CoatGoals x = Checks.with(Checks.MUDDY);
        Checks.due("nudge(0, 3), seen by the captain at 8", x.nudge(0, 3), Checks.bits(4));
        Checks.due("nudge(0, 3), seen from 8 on", x.nudge(0, 3), Checks.bits(0, 2, 4));
        state("twice", x, 0, 2, 0, 11, 12, 3, 15, 0, 0);
        Checks.due("nudge(1, -3), below COAT 0", x.nudge(1, -3), CoatGoals.STATE);
        Checks.due("nudge(1, -1), at COAT 0", x.nudge(1, -1), CoatGoals.STATE);
        Checks.due("nudge(0, 1), at COAT 1", x.nudge(0, 1), CoatGoals.STATE);
        Checks.due("nudge(2, -3)", x.nudge(2, -3), Checks.bits(1));
        Checks.due("nudge(2, -1), below 0", x.nudge(2, -1), CoatGoals.STATE);
        Checks.due("nudge(3, 3), seen by the boy", x.nudge(3, 3), Checks.bits(5));
        Checks.due("nudge(3, 2), seen by none", x.nudge(3, 2), 0);
        Checks.due("nudge(3, 1), above 20", x.nudge(3, 1), CoatGoals.STATE);
        state("at last", x, 0, 5, 0, 11, 12, 0, 20, 0, 0);
    }

    private static void edgesOfNudges() {
        CoatGoals x = Checks.with(Checks.MUDDY);
        long digest = x.digest();
        int[][] bad = {{-1, 1}, {4, 1}, {0, 0}, {0, 4}, {0, -4}, {3, Integer.MIN_VALUE}, {3, Integer.MAX_VALUE}};
        for (int[] b : bad) {
            Checks.due("nudge(" + b[0] + ", " + b[1] + ")", x.nudge(b[0], b[1]), CoatGoals.BAD);
        }
        Checks.due("refused, digest()", x.digest(), digest);
        x.nudge(1, 3);
        x.nudge(1, 3);
        Checks.due("nudge(1, 2) to 20", x.nudge(1, 2), 0);
        Checks.due("nudge(1, 1) to 21", x.nudge(1, 1), CoatGoals.STATE);
        Checks.due("nudge(0, -3) to 2", x.nudge(0, -3), Checks.bits(4));
        Checks.due("nudge(0, -3) to -1", x.nudge(0, -3), CoatGoals.STATE);
        Checks.due("nudge(0, -2) to 0", x.nudge(0, -2), 0);
        Checks.due("SEEN just 3 off", Checks.with("g0 c05c12c03c15 p0021p0081p0011p0091p1051").nudge(0, 1), 3);
    }

    private static void rains() {
        CoatGoals x = Checks.with(Checks.MUDDY);
        Checks.due("rain(0), as it is", x.rain(0), CoatGoals.STATE);
        Checks.due("rain(1)", x.rain(1), 1);
        Checks.due("count(4)", x.count(4), 1);
        Checks.due("rain(1), as it is", x.rain(1), CoatGoals.STATE);
        Checks.due("rain(0)", x.rain(0), 0);
        Checks.due("count(4)", x.count(4), 0);
        Checks.due("count(3)", x.count(3), 2);
        Checks.due("rain(2)", x.rain(2), CoatGoals.BAD);
        Checks.due("rain(-1)", x.rain(-1), CoatGoals.BAD);
    }

    private static void stands() {
        CoatGoals x = Checks.with(Checks.MUDDY);
        Checks.due("stand(0, 3)", x.stand(0, 3), 9);
        Checks.due("stand(0, 3), there already", x.stand(0, 3), CoatGoals.STATE);
        Checks.due("stand(0, 0)", x.stand(0, 0), 3);
        Checks.due("stand(5, 20)", x.stand(5, 20), 13);
        Checks.told("player(5, 2)", x, x.player(5, 2), 20);
        Checks.due("count(3)", x.count(3), 3);
        int[][] bad = {{-1, 1}, {6, 1}, {0, -1}, {0, 21}};
        for (int[] b : bad) {
            Checks.due("stand(" + b[0] + ", " + b[1] + ")", x.stand(b[0], b[1]), CoatGoals.BAD);
        }
    }

    private static void full() {
        CoatGoals x = Checks.with(Checks.MUDDY);
        for (int d = 0; d < 40; d++) {
            Checks.due("term() " + d, x.term(), Checks.bits(4));
        }
        long digest = x.digest();
        Checks.due("term() 40", x.term(), CoatGoals.FULL);
        Checks.due("nudge, FULL", x.nudge(0, 1), CoatGoals.FULL);
        Checks.due("nudge to 0, FULL", x.nudge(2, -3), CoatGoals.FULL);
        Checks.due("rain, FULL", x.rain(1), CoatGoals.FULL);
        Checks.due("rain, STATE ahead of FULL", x.rain(0), CoatGoals.STATE);
        Checks.due("rain, BAD ahead of FULL", x.rain(2), CoatGoals.BAD);
        Checks.due("stand, FULL", x.stand(0, 1), CoatGoals.FULL);
        Checks.due("stand, STATE ahead of FULL", x.stand(0, 9), CoatGoals.STATE);
        Checks.due("stand, BAD ahead of FULL", x.stand(0, 21), CoatGoals.BAD);
        Checks.due("refused, digest()", x.digest(), digest);
        Checks.due("undo(39)", x.undo(39), 1);
        Checks.due("nudge(2, -3)", x.nudge(2, -3), Checks.bits(1));
        Checks.due("nudge below 0, STATE ahead of FULL", x.nudge(2, -1), CoatGoals.STATE);
        Checks.due("nudge(4, 1), BAD ahead of FULL", x.nudge(4, 1), CoatGoals.BAD);
    }

    private static void undo() {
        CoatGoals x = Checks.with(Checks.MUDDY);
        long[] digests = new long[8];
        for (int d = 0; d < 8; d++) {
            digests[d] = x.digest();
            switch (d % 4) {
                case 0: x.term(); break;
                case 1: x.nudge(3, d == 1 ? 2 : -3); break;
                case 2: x.rain(d == 2 ? 1 : 0); break;
                default: x.stand(0, d); break;
            }
        }
        Checks.due("count(3)", x.count(3), 8);
        long last = x.digest();
        Checks.due("undo(9)", x.undo(9), CoatGoals.BAD);
        Checks.due("undo(-1)", x.undo(-1), CoatGoals.BAD);
        Checks.due("undo(8), none", x.undo(8), 0);
        Checks.due("nothing undone, digest()", x.digest(), last);
        for (int d = 7; d >= 4; d--) {
            Checks.due("undo(" + d + ")", x.undo(d), 1);
            Checks.due("undo(" + d + "), digest()", x.digest(), digests[d]);
        }
        Checks.due("undo(0)", x.undo(0), 4);
        Checks.due("undo(0), digest()", x.digest(), digests[0]);
        Checks.due("undo(1)", x.undo(1), CoatGoals.BAD);
    }

    private static void keepAndOn() {
        CoatGoals x = Checks.with(Checks.MUDDY);
        x.term();
        x.rain(1);
        x.stand(1, 1);
        Checks.due("keep(0)", x.keep(0), 3);
        int goals = x.count(9) + 2 * x.count(10);
        x.undo(1);
        x.nudge(0, 1);
        Checks.due("keep(2)", x.keep(2), 2);
        Checks.due("count(15)", x.count(15), 2);
        Checks.due("on(0)", x.on(0), 3);
        state("on(0)", x, 1, 3, 1, 5, 12, 3, 15, 1, 0);
        Checks.due("GOALS", x.count(9) + 2 * x.count(10), goals);
        Checks.told("player(1, 2)", x, x.player(1, 2), 1);
        Checks.due("undo(1), DEEDS are kept", x.undo(1), 2);
        state("undo(1)", x, 1, 1, 0, 5, 12, 3, 15, 1, 0);
        Checks.due("on(2)", x.on(2), 2);
        state("on(2)", x, 1, 2, 0, 6, 12, 3, 15, 1, 0);
        Checks.due("on(0), kept still", x.on(0), 3);
        x.undo(0);
        Checks.due("keep(0) over it", x.keep(0), 0);
        Checks.due("on(2)", x.on(2), 2);
        Checks.due("on(0)", x.on(0), 0);
        Checks.finds("on(1)", x, 0, x.on(1), 1);
        keptDeedsAreTheirOwn();
        int[] bad = {-1, 3};
        for (int k : bad) {
            Checks.due("keep(" + k + ")", x.keep(k), CoatGoals.BAD);
            Checks.due("on(" + k + ")", x.on(k), CoatGoals.BAD);
        }
    }

    /** Later deeds, of others and of other sorts, leave what is kept as it was. */
    private static void keptDeedsAreTheirOwn() {
        CoatGoals x = Checks.with(Checks.MUDDY);
        x.stand(3, 1);
        x.nudge(3, 2);
        x.term();
        x.keep(1);
        x.undo(0);
        long first = x.digest();
        x.nudge(0, 1);
        x.stand(5, 2);
        x.rain(1);
        Checks.due("on(1)", x.on(1), 3);
        Checks.due("undo(0)", x.undo(0), 3);
        Checks.due("all undone", x.digest(), first);
        CoatGoals one = Checks.with("g1 c00c01c19c20 w1209");
        one.keep(0);
        Checks.due("kept with one PLAYER", one.on(0), 0);
        Checks.due("nudged with one PLAYER", one.nudge(2, -1), Checks.bits(0));
    }

    private static void withoutPlayers() {
        CoatGoals x = new CoatGoals();
        Checks.due("term()", x.term(), CoatGoals.STATE);
        Checks.due("nudge(0, 1)", x.nudge(0, 1), CoatGoals.STATE);
        Checks.due("nudge(4, 1)", x.nudge(4, 1), CoatGoals.BAD);
        Checks.due("rain(1)", x.rain(1), CoatGoals.STATE);
        Checks.due("rain(2)", x.rain(2), CoatGoals.BAD);
        Checks.due("stand(0, 1)", x.stand(0, 1), CoatGoals.BAD);
        Checks.due("keep(0)", x.keep(0), CoatGoals.STATE);
        Checks.due("keep(3)", x.keep(3), CoatGoals.BAD);
        Checks.finds("on(0)", x, 0, x.on(0), 1);
        Checks.due("undo(1)", x.undo(1), CoatGoals.BAD);
    }
}
