/** Promises 34 to 36: odds, mid, lots. */
public final class ChancesTest {
    public static void main(String[] args) {
        odds();
        mid();
        refused();
        lots();
        lotsOfOne();
        lotsThatChangeNothing();
        lotsAreDeeds();
        refusedLots();
        Checks.finish();
    }

    private static void odds() {
        // In at 7, out at 8: the ball stays in by 12 - p of 12.
        CoatGoals x = Checks.with("g0 c00c01c05c08 p0071");
        Checks.fraction("odds(0, 0)", x, x.odds(0, 0), 1, 1);
        Checks.fraction("odds(0, 3)", x, x.odds(0, 3), 3, 4);
        Checks.fraction("odds(0, 5)", x, x.odds(0, 5), 7, 12);
        Checks.fraction("odds(0, 12)", x, x.odds(0, 12), 0, 1);
        Checks.fraction("odds(1, 5)", x, x.odds(1, 5), 0, 1);
        // Each by itself: SIDE 0 leads by one in, the other out.
        CoatGoals both = Checks.with("g0 c05c08c05c08 p0071p1071");
        Checks.fraction("odds(0, 4)", both, both.odds(0, 4), 2, 9);
        Checks.fraction("odds(1, 4)", both, both.odds(1, 4), 2, 9);
        // Five times 1 of 12 wide, of six: at least one wide, a denominator of 12 to the 6th.
        CoatGoals six = Checks.with("g0 c00c01c05c08 p0051p0051p0051p0051p0051p0051");
        Checks.fraction("odds(0, 1)", six, six.odds(0, 1), 2985984L - 1771561L, 2985984L);
        // 20 at most: a ball at 20 stays there.
        CoatGoals edge = Checks.with("g1 c00c01c19c20 p0201w0199");
        Checks.fraction("at the edge", edge, edge.odds(0, 7), 1, 1);
        // A keeper shoots no ball, but reaches: the ball 1 further is out.
        CoatGoals kept = Checks.with("g0 c00c01c05c15 p0071k1082");
        Checks.fraction("kept", kept, kept.odds(0, 6), 1, 2);
        x.lead(0);
        Checks.due("odds leaves asked()", x.asked(), 0);
    }

    private static void mid() {
        CoatGoals x = Checks.with("g0 c05c08c05c08 p0071p1071p1051k1201");
        Checks.fraction("mid(0)", x, x.mid(0), 2, 1);
        Checks.fraction("mid(12)", x, x.mid(12), 1, 1);
        Checks.fraction("mid(3)", x, x.mid(3), 7, 4);
        Checks.fraction("mid(5)", x, x.mid(5), 19, 12);
        CoatGoals none = Checks.with("g0 c05c08c05c08 k0071");
        Checks.fraction("no balls", none, none.mid(5), 0, 1);
    }

    private static void refused() {
        CoatGoals x = Checks.with(Checks.MUDDY);
        x.mid(5);
        int[][] bad = {{-1, 5}, {2, 5}, {0, -1}, {0, 13}};
        for (int[] b : bad) {
            Checks.due("odds(" + b[0] + ", " + b[1] + ")", x.odds(b[0], b[1]), CoatGoals.BAD);
            Checks.due("BAD ahead of STATE", new CoatGoals().odds(b[0], b[1]), CoatGoals.BAD);
        }
        Checks.due("mid(-1)", x.mid(-1), CoatGoals.BAD);
        Checks.due("mid(13)", x.mid(13), CoatGoals.BAD);
        Checks.due("refused, upper()", x.upper(), 7);
        Checks.due("refused, lower()", x.lower(), 12);
        CoatGoals empty = new CoatGoals();
        Checks.due("odds(0, 5) without PLAYERS", empty.odds(0, 5), CoatGoals.STATE);
        Checks.due("mid(5) without PLAYERS", empty.mid(5), CoatGoals.STATE);
    }

    /** A seed whose first number does so: what it by 8 modulo 8 is, and more, in a given range. */
    private static int seedFor(int what, int by64modulo, int modulus) {
        for (int seed = 1; seed < 100000; seed++) {
            long lot = seed * 48271L % 2147483647L;
            if (lot / 8 % 8 == what && lot / 64 % modulus == by64modulo) {
                return seed;
            }
        }
        return 0;
    }

    private static void lotsOfOne() {
        for (int what = 0; what <= 2; what++) {
            CoatGoals x = Checks.with(Checks.MUDDY);
            Checks.due("a TERM", x.lots(1, seedFor(what, 0, 1)), 1);
            Checks.due("a TERM, count(2)", x.count(2), 1);
            Checks.due("a TERM, count(3)", x.count(3), 1);
        }
        for (int k = 0; k <= 3; k++) {
            int[] coats = {5, 12, 3, 15};
            CoatGoals x = Checks.with(Checks.MUDDY);
            x.lots(1, seedFor(3, k, 4));
            Checks.due("to less", x.count(5 + k), coats[k] - 1);
            Checks.due("to less, a DEED", x.count(3), 1);
            x = Checks.with(Checks.MUDDY);
            x.lots(1, seedFor(4, k, 4));
            Checks.due("to more", x.count(5 + k), coats[k] + 1);
        }
        CoatGoals narrow = Checks.with("g0 c00c01c19c20 p0101");
        narrow.lots(1, seedFor(5, 0, 1));
        Checks.due("it RAINS", narrow.count(4), 1);
        narrow.lots(1, seedFor(5, 0, 1));
        Checks.due("no more", narrow.count(4), 0);
        Checks.due("two DEEDS", narrow.count(3), 2);
        narrow.lots(1, seedFor(6, 10, 21));
        Checks.due("stands where it stood, a DEED", narrow.count(3), 3);
        narrow.lots(1, seedFor(7, 20, 21));
        Checks.told("stands at 20", narrow, narrow.player(0, 2), 20);
        Checks.due("undo(3)", narrow.undo(3), 1);
        Checks.told("stands at 10", narrow, narrow.player(0, 2), 10);
    }

    /** A number that changes nothing is a DEED all the same, and undone it leaves all as it was. */
    private static void lotsThatChangeNothing() {
        int[] seeds = {
            seedFor(3, 0, 4), seedFor(4, 0, 4), seedFor(3, 1, 4), seedFor(4, 2, 4), seedFor(3, 3, 4),
            seedFor(4, 3, 4), seedFor(6, 10, 21), seedFor(7, 10, 21)};
        for (int seed : seeds) {
            String call = "lots(1, " + seed + ")";
            CoatGoals x = Checks.with("g0 c00c01c19c20 p0101w0053");
            x.stand(1, 10);
            x.term();
            long ahead = x.digest();
            Checks.due(call, x.lots(1, seed), 0);
            Checks.due(call + ", count(3)", x.count(3), 3);
            for (int k = 0; k <= 3; k++) {
                Checks.due(call + ", COAT " + k, x.count(5 + k), new int[] {0, 1, 19, 20}[k]);
            }
            Checks.told(call + ", where 0 stands", x, x.player(0, 2), 10);
            Checks.told(call + ", where 1 stands", x, x.player(1, 2), 10);
            Checks.due(call + ", undo(2)", x.undo(2), 1);
            Checks.due(call + ", all as it was", x.digest(), ahead);
            x.lots(1, seed);
            Checks.due(call + ", keep(0)", x.keep(0), 3);
            x.undo(0);
            Checks.due(call + ", on(0)", x.on(0), 3);
            Checks.due(call + ", undo(1) behind on(0)", x.undo(1), 2);
        }
    }

    /** Behind lots(n, seed) there are n DEEDS more, whatever the numbers, and FULL fits that. */
    private static void lotsAreDeeds() {
        for (int seed = 1; seed <= 60; seed++) {
            CoatGoals x = Checks.with("g0c00c01c19c20p0051");
            long ahead = x.digest();
            x.lots(20, seed);
            Checks.due("20 by seed " + seed, x.count(3), 20);
            x.lots(7, seed);
            Checks.due("7 more by seed " + seed, x.count(3), 27);
            Checks.due("14 more by seed " + seed, x.lots(14, seed), CoatGoals.FULL);
            x.lots(13, seed);
            Checks.due("13 more by seed " + seed, x.count(3), 40);
            Checks.due("1 more by seed " + seed, x.lots(1, seed), CoatGoals.FULL);
            Checks.due("a TERM more by seed " + seed, x.term(), CoatGoals.FULL);
            Checks.due("undo(20) by seed " + seed, x.undo(20), 20);
            Checks.due("undo(0) by seed " + seed, x.undo(0), 20);
            Checks.due("all as it was, seed " + seed, x.digest(), ahead);
        }
    }

    private static void lots() {
        // Whose turn to stand it is comes by the number modulo the PLAYERS.
        CoatGoals x = Checks.with(Checks.MUDDY);
        for (int seed = 1; seed <= 2000; seed += 37) {
            long lot = seed * 48271L % 2147483647L;
            if (lot / 8 % 8 >= 6) {
                x.undo(0);
                x.lots(1, seed);
                Checks.told("PLAYER by lot", x, x.player((int) (lot % 6), 2), (int) (lot / 64 % 21));
            }
        }
        // The second number comes from the first: from seed 1 it is 48271 squared modulo the prime.
        CoatGoals two = Checks.with(Checks.MUDDY);
        CoatGoals one = Checks.with(Checks.MUDDY);
        two.lots(2, 1);
        one.lots(1, 1);
        one.lots(1, 48271);
        Checks.due("by steps", two.digest(), one.digest());
        CoatGoals twenty = Checks.with(Checks.MUDDY);
        int goals = twenty.lots(20, 2147483646);
        Checks.due("all GOALS", goals, twenty.count(9) + twenty.count(10));
    }

    private static void refusedLots() {
        CoatGoals x = Checks.with(Checks.MUDDY);
        long digest = x.digest();
        int[][] bad = {{0, 1}, {21, 1}, {-1, 1}, {1, 0}, {1, -5}, {1, 2147483647}};
        for (int[] b : bad) {
            Checks.due("lots(" + b[0] + ", " + b[1] + ")", x.lots(b[0], b[1]), CoatGoals.BAD);
            Checks.due("BAD ahead of STATE", new CoatGoals().lots(b[0], b[1]), CoatGoals.BAD);
        }
        Checks.due("refused, digest()", x.digest(), digest);
        for (int d = 0; d < 21; d++) {
            x.term();
        }
        Checks.due("20 more than 21", x.lots(20, 1), CoatGoals.FULL);
        Checks.due("BAD ahead of FULL", x.lots(21, 1), CoatGoals.BAD);
        Checks.due("19 more than 21", x.lots(19, 1) >= 21 ? 1 : 0, 1);
        Checks.due("lots(1, 1) without PLAYERS", new CoatGoals().lots(1, 1), CoatGoals.STATE);
    }
}
