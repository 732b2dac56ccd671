/** Promises 26 to 30: coats, sure, next, stood, kinds. */
public final class EvidenceTest {
    private static final int ALL = (1 << 21) - 1;

    public static void main(String[] args) {
        noEvidence();
        byBalls();
        keepersAsTheyAre();
        contradiction();
        mostPairs();
        refusedGuesses();
        stood();
        kinds();
        refusedTraces();
        Checks.finish();
    }

    private static void noEvidence() {
        CoatGoals x = Checks.with("g0 c05c12c03c15 p0094");
        x.row(0, 0);
        Checks.fraction("coats(0, 0)", x, x.coats(0, 0), 210, 1);
        Checks.due("the first pair", x.asked(), 1);
        Checks.due("sure(0, 0)", x.sure(0, 0), 0);
        Checks.due("never at the edges", x.asked(), Checks.bits(0, 20));
        // At p a ball is in with p * (20 - p) of the 210 pairs: with 100 at 10, at most.
        Checks.due("next(0, 0)", x.next(0, 0), 10);
        Checks.due("its part", x.asked(), 110);
        CoatGoals other = Checks.with("g1 c05c12c03c15 p0094");
        other.row(0, 0);
        Checks.due("school 1, sure(1, 0)", other.sure(1, 0), 0);
        Checks.due("school 1, none is never in", other.asked(), 0);
    }

    private static void byBalls() {
        CoatGoals x = Checks.with("g0 c05c12c03c15 p0094");
        // In at 7, out at 4 and 13: lower one 4 to 6, upper one 8 to 13.
        Checks.row(x, 3, 4, 0, 7, 1, 13, 0);
        Checks.fraction("coats(0, 3)", x, x.coats(0, 3), 18, 1);
        Checks.due("4 and 8", x.asked(), 4 * 32 + 8);
        Checks.due("sure(0, 3)", x.sure(0, 3), Checks.bits(7));
        Checks.due("none there", x.asked(), Checks.range(0, 4) | Checks.range(13, 20));
        // At 5: in with lower 4, 6 of 18; at 6: 12; at 8: 15; at 9: 12; at 10: 9.
        Checks.due("next(0, 3)", x.next(0, 3), 10);
        Checks.due("9 of 18", x.asked(), 9);
        CoatGoals other = Checks.with("g1 c05c12c03c15 p0094");
        Checks.row(other, 3, 4, 0, 7, 1, 13, 0);
        // With the other school: lower one 5 to 7, upper one 7 to 12, not both at 7.
        Checks.fraction("school 1, coats(0, 3)", other, other.coats(0, 3), 17, 1);
        Checks.due("5 and 7", other.asked(), 5 * 32 + 7);
        Checks.due("school 1, sure(0, 3)", other.sure(0, 3), Checks.bits(7));
        Checks.due("school 1, none there", other.asked(), Checks.range(0, 4) | Checks.range(13, 20));
    }

    private static void keepersAsTheyAre() {
        CoatGoals x = Checks.with("g0 c05c12c03c15 k0103b1033");
        // The keeper of END 0 reaches 9 to 11: a ball that is not in there tells nothing.
        Checks.row(x, 0, 9, 0, 10, 0, 11, 0);
        Checks.fraction("coats(0, 0)", x, x.coats(0, 0), 210, 1);
        Checks.due("sure(0, 0)", x.sure(0, 0), 0);
        Checks.due("never where it reaches", x.asked(), Checks.bits(0, 9, 10, 11, 20));
        // At END 1 three balls out tell much.
        Checks.due("coats(1, 0)", x.coats(1, 0), 1);
        // Out at 9, 10, 11: the upper one is at most 9, or the lower one at least 11, or 9, 10 / 10, 11 and so on.
        int pairs = 0;
        for (int a = 0; a <= 20; a++) {
            for (int b = a + 1; b <= 20; b++) {
                boolean out = !(a < 9 && 9 < b) && !(a < 10 && 10 < b) && !(a < 11 && 11 < b);
                pairs += out ? 1 : 0;
            }
        }
        Checks.due("upper()", x.upper(), pairs);
        x.stand(0, 20);
        Checks.fraction("as it stands now", x, x.coats(0, 0), pairs, 1);
    }

    private static void contradiction() {
        CoatGoals x = Checks.with("g0 c05c12c03c15 p0094");
        Checks.row(x, 0, 7, 1, 7, 0);
        x.lead(0);
        Checks.fraction("coats(0, 0)", x, x.coats(0, 0), 0, 1);
        Checks.due("no first pair", x.asked(), CoatGoals.NONE);
        Checks.due("sure(0, 0)", x.sure(0, 0), ALL);
        Checks.due("and none", x.asked(), ALL);
        Checks.row(x, 1, 7, 1);
        Checks.due("other evidence, sure(0, 1)", x.sure(0, 1), Checks.bits(7));
        x.lead(0);
        Checks.due("next(0, 0)", x.next(0, 0), CoatGoals.NONE);
        Checks.due("NONE tells nothing", x.asked(), 0);
    }

    private static void mostPairs() {
        CoatGoals x = Checks.with("g0 c05c12c03c15 p0094");
        int[] eight = {5, 1, 5, 1, 5, 1, 5, 1, 5, 1, 5, 1, 4, 0, 6, 0};
        Checks.row(x, 0, eight);
        Checks.fraction("eight pairs", x, x.coats(1, 0), 1, 1);
        Checks.due("4 and 6", x.asked(), 4 * 32 + 6);
        Checks.due("one pair left, next", x.next(1, 0), 0);
        Checks.due("all of it", x.asked(), 1);
        // In at 2, out at 3: the upper one is at 3, the lower one at 0 or 1, which a ball at 1 tells.
        Checks.row(x, 0, 2, 1, 3, 0);
        Checks.due("next at 1", x.next(1, 0), 1);
        Checks.due("one of two", x.asked(), 1);
        // With the other school: 18 and 19, or 18 and 20, which a ball at 20 alone tells.
        CoatGoals other = Checks.with("g1 c05c12c03c15 p0094");
        Checks.row(other, 0, 17, 0, 18, 1, 19, 1);
        Checks.due("next at 20", other.next(1, 0), 20);
        Checks.due("one of two", other.asked(), 1);
    }

    private static int guess(CoatGoals x, int call, int end, int r) {
        return call == 0 ? x.coats(end, r) : call == 1 ? x.sure(end, r) : x.next(end, r);
    }

    private static void refusedGuesses() {
        CoatGoals x = Checks.with("g0 c05c12c03c15 p0094");
        CoatGoals empty = new CoatGoals();
        Checks.row(x, 0, 7, 2, 7);
        Checks.row(x, 1, 21, 0);
        Checks.row(x, 2, 20, 2);
        Checks.row(x, 3, 0, 0, -1, 1);
        Checks.row(x, 4, new int[18]);
        long digest = x.digest();
        for (int call = 0; call < 3; call++) {
            int n = call;
            Checks.due("BAD end", guess(x, call, 2, 0), CoatGoals.BAD);
            Checks.due("BAD end", guess(x, call, -1, 0), CoatGoals.BAD);
            Checks.due("BAD row", guess(x, call, 0, 6), CoatGoals.BAD);
            Checks.due("BAD row", guess(x, call, 0, -1), CoatGoals.BAD);
            Checks.due("BAD ahead of STATE", guess(empty, call, 2, 0), CoatGoals.BAD);
            Checks.due("STATE ahead of NOTHING", guess(empty, call, 0, 0), CoatGoals.STATE);
            Checks.finds("NOTHING", x, n, guess(x, call, 0, 5), 1);
            Checks.finds("SIZE ahead of UNLIKE", x, 2 * n, guess(x, call, 0, 0), 5);
            Checks.finds("SIZE, nine pairs", x, 2 * n + 1, guess(x, call, 0, 4), 5);
            Checks.finds("UNLIKE, a place", x, 3 * n, guess(x, call, 0, 1), 3);
            Checks.finds("UNLIKE, whether in", x, 3 * n + 1, guess(x, call, 0, 2), 3);
            Checks.finds("UNLIKE, the second", x, 3 * n + 2, guess(x, call, 0, 3), 3);
        }
        Checks.due("refused, digest()", x.digest(), digest);
        Checks.due("refused, upper()", x.upper(), 0);
        Checks.due("refused, asked()", x.asked(), 0);
    }

    private static void stood() {
        CoatGoals x = Checks.with("g0 c05c12c03c15 p0094w1057k0106h1113t0089b1139");
        x.row(0, 0);
        for (int i = 0; i < 6; i++) {
            Checks.due("no pairs, stood(" + i + ", 0)", x.stood(i, 0), ALL);
        }
        Checks.row(x, 0, 0, 12, 1, 12);
        int[] due = {Checks.bits(12), Checks.bits(5), 0, 0, 0, 0};
        for (int i = 0; i < 6; i++) {
            Checks.due("12 wet and dry, stood(" + i + ", 0)", x.stood(i, 0), due[i]);
        }
        Checks.row(x, 1, 0, 20);
        int[] far = {Checks.bits(20), Checks.range(13, 20), 0, Checks.bits(20), Checks.range(16, 20), 0};
        Checks.row(x, 2, 1, 0);
        int[] near = {Checks.bits(0), 0, 0, Checks.bits(0, 1, 2), 0, 0};
        Checks.row(x, 3, 0, 8, 1, 13);
        int[] captains = {0, 0, 0, 0, Checks.bits(4), 0};
        for (int i = 0; i < 6; i++) {
            Checks.due("at 20, stood(" + i + ", 1)", x.stood(i, 1), far[i]);
            Checks.due("at 0, stood(" + i + ", 2)", x.stood(i, 2), near[i]);
            Checks.due("8, 13, stood(" + i + ", 3)", x.stood(i, 3), captains[i]);
        }
    }

    private static void kinds() {
        CoatGoals x = Checks.with("g0 c05c12c03c15 p0094b1191");
        x.row(0, 0);
        Checks.due("no pairs", x.kinds(0, 0), 63);
        Checks.row(x, 0, 0, 9);
        Checks.due("9 dry", x.kinds(0, 0), Checks.bits(0, 3));
        Checks.row(x, 0, 1, 7);
        Checks.due("7 wet", x.kinds(0, 0), Checks.bits(3));
        Checks.row(x, 0, 1, 13);
        Checks.due("13 wet", x.kinds(0, 0), Checks.bits(1, 4));
        Checks.row(x, 0, 1, 13, 0, 11);
        Checks.due("13 wet, 11 dry", x.kinds(0, 0), Checks.bits(4));
        Checks.row(x, 0, 1, 13, 0, 13);
        Checks.due("13 both", x.kinds(0, 0), Checks.bits(1));
        Checks.row(x, 0, 0, 19);
        Checks.due("19 dry, of strength 1", x.kinds(1, 0), Checks.bits(0, 3, 4));
        Checks.row(x, 0, 0, 3);
        Checks.due("3 dry", x.kinds(0, 0), 0);
        x.stand(0, 3);
        Checks.due("3 dry, from 3", x.kinds(0, 0), Checks.bits(0, 3));
    }

    private static int trace(CoatGoals x, int call, int i, int r) {
        return call == 0 ? x.stood(i, r) : x.kinds(i, r);
    }

    private static void refusedTraces() {
        CoatGoals x = Checks.with("g0 c05c12c03c15 p0094");
        Checks.row(x, 0, 2, 7, 0);
        Checks.row(x, 1, 0, 21);
        Checks.row(x, 2, 2, 20);
        Checks.row(x, 3, 0, 0, 1, -1);
        Checks.row(x, 4, new int[18]);
        long digest = x.digest();
        for (int call = 0; call < 2; call++) {
            Checks.due("BAD player", trace(x, call, 1, 5), CoatGoals.BAD);
            Checks.due("BAD player", trace(x, call, -1, 5), CoatGoals.BAD);
            Checks.due("BAD row", trace(x, call, 0, 6), CoatGoals.BAD);
            Checks.due("BAD row", trace(x, call, 0, -1), CoatGoals.BAD);
            Checks.due("BAD without PLAYERS", trace(new CoatGoals(), call, 0, 0), CoatGoals.BAD);
            Checks.finds("NOTHING", x, call, trace(x, call, 0, 5), 1);
            Checks.finds("SIZE ahead of UNLIKE", x, 2 * call, trace(x, call, 0, 0), 5);
            Checks.finds("SIZE, nine pairs", x, 2 * call + 1, trace(x, call, 0, 4), 5);
            Checks.finds("UNLIKE, a place", x, 3 * call, trace(x, call, 0, 1), 3);
            Checks.finds("UNLIKE, whether rain", x, 3 * call + 1, trace(x, call, 0, 2), 3);
            Checks.finds("UNLIKE, the second", x, 3 * call + 2, trace(x, call, 0, 3), 3);
        }
        Checks.due("refused, digest()", x.digest(), digest);
    }
}
