/** Promises 12 and 13: player, mark. */
public final class PlayersTest {
    private static final int NONE = CoatGoals.NONE;

    public static void main(String[] args) {
        facts();
        schools();
        refusedFacts();
        marks();
        refusedMarks();
        Checks.finish();
    }

    private static void player(CoatGoals x, int i, int... facts) {
        for (int what = 0; what < facts.length; what++) {
            Checks.told("player(" + i + ", " + what + ")", x, x.player(i, what), facts[what]);
        }
    }

    private static void facts() {
        CoatGoals x = Checks.with(Checks.MUDDY);
        player(x, 0, 0, 0, 9, 4, 9, 0, NONE);
        player(x, 1, 1, 1, 5, 7, 12, 0, NONE);
        player(x, 2, 2, 0, 10, 6, NONE, 0, 2);
        player(x, 3, 3, 1, 11, 3, 11, 0, NONE);
        player(x, 4, 4, 0, 8, 1, 8, 1, NONE);
        player(x, 5, 5, 1, 13, 9, NONE, 0, 4);
        x = Checks.with("g1 c00c02c15c20 h1013h1203t0169t0009b1002k0202");
        player(x, 0, 3, 1, 1, 3, 1, 1, NONE);
        player(x, 2, 4, 0, 16, 9, 20, 1, NONE);
        player(x, 3, 4, 0, 0, 9, 4, 0, NONE);
        player(x, 4, 5, 1, 0, 2, NONE, 0, 1);
        player(x, 5, 2, 0, 20, 2, NONE, 0, 0);
        x.rain(1);
        player(x, 0, 3, 1, 1, 3, 0, 1, NONE);
        player(x, 1, 3, 1, 20, 3, 18, 0, NONE);
        player(x, 2, 4, 0, 16, 9, 20, 1, NONE);
        player(x, 3, 4, 0, 0, 9, 9, 0, NONE);
    }

    private static void schools() {
        for (int school = 0; school <= 1; school++) {
            CoatGoals x = Checks.with("g" + school + " c00c01c05c10 p0051p0101p0041p0111p0061p0091");
            int[] in = {school, school, 0, 0, 1, 1};
            for (int i = 0; i < 6; i++) {
                Checks.told("school " + school + ", player(" + i + ", 5)", x, x.player(i, 5), in[i]);
            }
        }
        CoatGoals reached = Checks.with("g0 c00c20c00c20 p0041p0051p0071p0081k1062");
        int[] in = {1, 1, 1, 1};
        for (int i = 0; i < 4; i++) {
            Checks.told("reach 0 at 6, player(" + i + ", 5)", reached, reached.player(i, 5), in[i]);
        }
        reached.stand(0, 6);
        Checks.told("at 6 itself", reached, reached.player(0, 5), 0);
        CoatGoals other = Checks.with("g0 c00c20c00c20 p0061k0069b0069");
        Checks.told("its own keepers do not matter", other, other.player(0, 5), 1);
    }

    private static void refusedFacts() {
        CoatGoals x = Checks.with("g1 c00c01c19c20 w1209");
        x.player(0, 2);
        Checks.due("player(-1, 0)", x.player(-1, 0), CoatGoals.BAD);
        Checks.due("player(1, 0)", x.player(1, 0), CoatGoals.BAD);
        Checks.due("player(0, -1)", x.player(0, -1), CoatGoals.BAD);
        Checks.due("player(0, 7)", x.player(0, 7), CoatGoals.BAD);
        Checks.due("refused, asked()", x.asked(), 20);
    }

    private static void marks() {
        CoatGoals x = Checks.with("g0 c05c12c03c15 w0159w0099h0203p0181t0075b0019");
        Checks.due("a winger to the edge", x.mark(0, 1), 5);
        Checks.due("a winger", x.mark(1, 1), 9);
        Checks.due("a heavy one and the winger at 20", x.mark(2, 3), 2);
        Checks.due("a captain as a winger", x.mark(4, 1), 2);
        Checks.due("a captain, were it rain", x.mark(4, 4), 3);
        Checks.due("a boy as a keeper, 0 to 5", x.mark(5, 2), 6);
        Checks.due("a boy, none of the other side's", x.mark(5, 5), 0);
        x.rain(1);
        Checks.due("the heavy one at 18, two wingers and a player", x.mark(2, 3), 3);
        Checks.due("a captain as a winger in rain", x.mark(4, 1), 5);
        Checks.due("a captain, were it dry", x.mark(4, 4), 3);
        x.stand(4, 19);
        Checks.due("a captain at the edge", x.mark(4, 4), 0);
        CoatGoals boy = Checks.with("g0 c05c12c03c15 b0103p1061p1071p1121w1039k1101");
        Checks.due("a boy reaches 8 to 12", boy.mark(0, 2), 5);
        Checks.due("two of the other side's balls", boy.mark(0, 5), 2);
        Checks.due("a keeper that reaches its own place", boy.mark(5, 2), 1);
        CoatGoals other = Checks.with("g0 c05c12c03c15 b1103p0061p0121p1101");
        Checks.due("a boy of SIDE 1", other.mark(0, 5), 1);
        CoatGoals heavy = Checks.with("g0 c05c12c03c15 h0101p0101h0101p1101k0101");
        Checks.due("of its own side, that shoot", heavy.mark(0, 3), 3);
    }

    private static void refusedMarks() {
        CoatGoals x = Checks.with(Checks.MUDDY);
        int[][] isOf = {{}, {1}, {2}, {3}, {1, 4}, {2, 5}};
        int unlike = 0;
        for (int i = 0; i < 6; i++) {
            for (int kind = 1; kind <= 5; kind++) {
                boolean is = false;
                for (int of : isOf[i]) {
                    is |= of == kind;
                }
                int got = x.mark(i, kind);
                Checks.due("mark(" + i + ", " + kind + ") is UNLIKE", got == CoatGoals.FINDING ? 1 : 0, is ? 0 : 1);
                unlike += is ? 0 : 1;
            }
        }
        Checks.due("findings(3)", x.findings(3), unlike);
        Checks.due("finding()", x.finding(), 3);
        Checks.due("mark(0, 0)", x.mark(0, 0), CoatGoals.BAD);
        Checks.due("mark(0, 6)", x.mark(0, 6), CoatGoals.BAD);
        Checks.due("mark(0, -1)", x.mark(0, -1), CoatGoals.BAD);
        Checks.due("mark(6, 1)", x.mark(6, 1), CoatGoals.BAD);
        Checks.due("mark(-1, 1)", x.mark(-1, 1), CoatGoals.BAD);
        Checks.due("without PLAYERS", new CoatGoals().mark(0, 1), CoatGoals.BAD);
    }
}
