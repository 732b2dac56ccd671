/** Promises 31 to 33: sets, surely, duel. */
public final class StrengthTest {
    public static void main(String[] args) {
        sets();
        surely();
        refused();
        duel();
        refusedDuel();
        Checks.finish();
    }

    private static void sets(CoatGoals x, int v, int many, int first) {
        Checks.fraction("sets(" + v + ")", x, x.sets(v), many, 1);
        Checks.due("sets(" + v + "), asked()", x.asked(), first);
    }

    private static void sets() {
        CoatGoals x = Checks.with(Checks.MUDDY);
        sets(x, 0, 1, 0);
        sets(x, 4, 2, Checks.bits(0));
        sets(x, 10, 4, Checks.bits(0, 2));
        sets(x, 30, 1, 63);
        sets(x, 29, 1, 63 - 16);
        sets(x, 31, 0, CoatGoals.NONE);
        sets(x, 54, 0, CoatGoals.NONE);
        CoatGoals strong = Checks.with("g0 c05c12c03c15 p0009p0009p0009p0009p0009p0009");
        sets(strong, 54, 1, 63);
        sets(strong, 27, 20, 7);
        sets(strong, 8, 0, CoatGoals.NONE);
    }

    private static void surely(CoatGoals x, int v, int inEach, int inNone) {
        Checks.due("surely(" + v + ")", x.surely(v), inEach);
        Checks.due("surely(" + v + "), asked()", x.asked(), inNone);
    }

    private static void surely() {
        CoatGoals x = Checks.with(Checks.MUDDY);
        surely(x, 0, 0, 63);
        surely(x, 4, 0, Checks.bits(1, 2, 5));
        surely(x, 10, 0, 0);
        surely(x, 30, 63, 0);
        // 26 of 30: all but the player (4), or all but the heavy one (3) and the captain (1).
        surely(x, 26, Checks.bits(1, 2, 5), 0);
        // 2 and 3 of one: 9 and 1 make no 3 with 2.
        CoatGoals few = Checks.with("g0 c05c12c03c15 p0002p0003p0009");
        surely(few, 5, Checks.bits(0, 1), Checks.bits(2));
        long upper = few.upper();
        few.surely(3);
        Checks.due("surely leaves upper()", few.upper(), upper);
    }

    private static void refused() {
        CoatGoals x = Checks.with(Checks.MUDDY);
        x.lead(1);
        Checks.finds("surely(31)", x, 0, x.surely(31), 4);
        int[] bad = {-1, 55};
        for (int v : bad) {
            Checks.due("sets(" + v + ")", x.sets(v), CoatGoals.BAD);
            Checks.due("surely(" + v + ")", x.surely(v), CoatGoals.BAD);
            Checks.due("BAD ahead of STATE", new CoatGoals().sets(v), CoatGoals.BAD);
            Checks.due("BAD ahead of STATE", new CoatGoals().surely(v), CoatGoals.BAD);
        }
        Checks.due("refused, asked()", x.asked(), 1);
        Checks.due("refused, upper()", x.upper(), 0);
        CoatGoals empty = new CoatGoals();
        Checks.due("sets(0) without PLAYERS", empty.sets(0), CoatGoals.STATE);
        Checks.due("surely(0) without PLAYERS", empty.surely(0), CoatGoals.STATE);
    }

    private static void duel() {
        CoatGoals x = Checks.with("g0 c05c08c05c08 p0081");
        Checks.told("out by one", x, x.duel(0), 0);
        Checks.told("SIDE 0 opens, SIDE 1 shuts", x, x.duel(1), 0);
        Checks.told("twice", x, x.duel(2), 0);
        // In by two at either coat: SIDE 1 alone can't shut it in one nudge, SIDE 0 sets it back.
        CoatGoals safe = Checks.with("g0 c05c12c05c12 p0081");
        Checks.told("in", safe, safe.duel(0), 1);
        Checks.told("in still", safe, safe.duel(1), 1);
        Checks.told("in at last", safe, safe.duel(2), 1);
        // In by one at the lower coat: SIDE 0 goes one further, SIDE 1 back.
        CoatGoals near = Checks.with("g0 c05c12c05c12 p0061");
        Checks.told("near", near, near.duel(1), 1);
        // Two balls, one at each coat's inside: SIDE 0 saves one, SIDE 1 shuts the other.
        CoatGoals two = Checks.with("g0 c05c12c05c12 p0061p0111");
        Checks.told("two in", two, two.duel(0), 2);
        Checks.told("one shut", two, two.duel(1), 1);
        // SIDE 1 has the last word: it opens END 0 for its own ball.
        CoatGoals last = Checks.with("g0 c05c08c10c11 p1081");
        Checks.told("out", last, last.duel(0), 0);
        Checks.told("SIDE 0 draws the coat, SIDE 1 sets it back", last, last.duel(1), 0);
        // SIDE 0 can guard but one of SIDE 1's two coats: the other one lets two balls in.
        CoatGoals guarded = Checks.with("g0 c05c08c15c16 p1051p1051p1081p1081");
        Checks.told("all out", guarded, guarded.duel(0), 0);
        Checks.told("two let in", guarded, guarded.duel(1), -2);
        Checks.told("two let in at last", guarded, guarded.duel(2), -2);
        // Balls well inside of both ends: nobody can change a thing.
        CoatGoals inside = Checks.with("g0 c03c13c03c13 p0081p1081p1081p1081");
        Checks.told("one to three", inside, inside.duel(1), -2);
        Checks.told("one to three at last", inside, inside.duel(2), -2);
        CoatGoals six = Checks.with("g0 c03c13c03c13 p0081p0081p0081p0081p0081p0081");
        Checks.told("six", six, six.duel(2), 6);
        // A keeper at END 1 reaches the one ball that a nudge would let in; at END 0 there is none.
        CoatGoals kept = Checks.with("g0 c05c08c05c08 p0081p1051p1081k1082");
        Checks.told("kept", kept, kept.duel(1), -1);
        // The last word is SIDE 1's: whatever SIDE 0 nudges, it nudges back.
        CoatGoals back = Checks.with("g0 c09c13c09c10 p0101");
        Checks.told("opened, shut, opened, shut", back, back.duel(2), 0);
        CoatGoals narrow = Checks.with("g0 c06c08c08c10 p1071");
        Checks.told("shut, opened, shut, opened", narrow, narrow.duel(2), -1);
        // To nudge none is best: each nudge of SIDE 0 gives SIDE 1 room for a better one.
        CoatGoals still = Checks.with("g1 c00c01c19c20 p0191p0201p0201p1021p1031");
        Checks.told("none by SIDE 0, COAT 1 by SIDE 1", still, still.duel(1), 2);
        // At the edge COAT 3 can't go on: the ball at 20 stays out with SCHOOL 0.
        CoatGoals edge = Checks.with("g0 c00c01c10c20 p0201");
        Checks.told("edge", edge, edge.duel(2), 0);
        // SIDE 0 nudges none: coats side by side can't be nudged nearer to shut a ball out.
        CoatGoals shut = Checks.with("g1 c00c01c07c08 p0071p0081");
        Checks.told("narrow as it can be", shut, shut.duel(1), 2);
        long digest = shut.digest();
        shut.duel(2);
        Checks.due("aside, digest()", shut.digest(), digest);
    }

    private static void refusedDuel() {
        CoatGoals x = Checks.with(Checks.MUDDY);
        x.lead(1);
        Checks.due("duel(-1)", x.duel(-1), CoatGoals.BAD);
        Checks.due("duel(3)", x.duel(3), CoatGoals.BAD);
        Checks.due("refused, asked()", x.asked(), 1);
        Checks.due("duel(0) without PLAYERS", new CoatGoals().duel(0), CoatGoals.STATE);
        Checks.due("duel(3) without PLAYERS", new CoatGoals().duel(3), CoatGoals.BAD);
    }
}
