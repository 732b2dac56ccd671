import java.math.BigInteger;
import java.util.function.Supplier;

/** Promises 34 to 36, sentence by sentence: odds, mid, lots, and what "Terms" says of chances and lots. */
final class ChanceEdges {
    private static final int BAD = CoatGoals.BAD, FULL = CoatGoals.FULL, STATE = CoatGoals.STATE;
    private static final String MUDDY = Checks.MUDDY;
    private static final BigInteger FACTOR = BigInteger.valueOf(48271), MODULUS = BigInteger.valueOf(2147483647);

    private ChanceEdges() {
    }

    static void run() {
        furtherByChance();
        oddsOfMore();
        oddsRefused();
        midOfBoth();
        midRefused();
        lotNumbers();
        lotsDeeds();
        lotsInAnyCase();
        lotsRefused();
        lotsFull();
    }

    private static long gcd(long a, long b) {
        return BigInteger.valueOf(a).gcd(BigInteger.valueOf(b)).longValue();
    }

    /** A chance of so much of 12 to the n-th, in lowest terms. */
    private static void part(Sentence s, CoatGoals x, long upper, long lower, String name, int... args) {
        long by = upper == 0 ? lower : gcd(upper, lower);
        s.tellsPart(x, upper / by, lower / by, name, args);
    }

    private static void furtherByChance() {
        Sentence s = Sentence.ofTerms("(each ball LANDS 1 further than told, 20 at most, by p (0 .. 12) of 12, each by itself)");
        for (int p = 0; p <= 12; p++) {
            // In as told and out 1 further; out as told and in 1 further; in and out both times.
            part(s, Checks.with("g0c00c01c05c08p0071"), 12 - p, 12, "odds", 0, p);
            part(s, Checks.with("g0c00c01c05c08p0051"), p, 12, "odds", 0, p);
            part(s, Checks.with("g0c00c01c05c08p0061"), 12, 12, "odds", 0, p);
            part(s, Checks.with("g0c00c01c05c08p0041"), 0, 12, "odds", 0, p);
            // At 20 it stays.
            part(s, Checks.with("g1c00c01c19c20p0201"), 12, 12, "odds", 0, p);
            part(s, Checks.with("g1c00c01c19c20w0209"), 12, 12, "odds", 0, p);
            part(s, Checks.with("g0c00c01c18c20p0201"), 0, 12, "odds", 0, p);
            part(s, Checks.with("g0c00c01c18c20p0191"), 12 - p, 12, "odds", 0, p);
            // Further than told: 0 at least first, then 1 further.
            CoatGoals heavy = Checks.with("g0c00c01c00c02h0001");
            heavy.rain(1);
            part(s, heavy, p, 12, "odds", 0, p);
            // Each by itself: all six of them, out 1 further.
            long straight = 12 - p;
            long all = 12L * 12 * 12 * 12 * 12 * 12;
            CoatGoals six = Checks.with("g0c00c20c05c08p0071p0071p0071p0071p0071p0071");
            part(s, six, all - (long) Math.pow(p, 6), all, "odds", 0, p);
            CoatGoals both = Checks.with("g0c05c08c05c08p0071p1071");
            part(s, both, straight * p, 144, "odds", 0, p);
            part(s, both, straight * p, 144, "odds", 1, p);
            // Where a keeper reaches it is out, as told or 1 further.
            part(s, Checks.with("g0c00c01c05c15p0081k1092"), 12 - p, 12, "odds", 0, p);
            part(s, Checks.with("g0c00c01c05c15p0081k1082"), p, 12, "odds", 0, p);
        }
    }

    private static void oddsOfMore() {
        Sentence s = Sentence.of(34, "Chances that a SIDE has more GOALS in the next TERM than the other one: 1.");
        int[] ends = {0, 12};
        for (int p : ends) {
            CoatGoals x = Checks.with("g0c00c20c00c20p0101p1101");
            s.tellsPart(x, 0, 1, "odds", 0, p);
            s.tellsPart(x, 0, 1, "odds", 1, p);
            CoatGoals more = Checks.with("g0c00c20c00c20p0101p1101p0101p1101p1101");
            s.tellsPart(more, 0, 1, "odds", 0, p);
            s.tellsPart(more, 1, 1, "odds", 1, p);
            CoatGoals none = Checks.with("g0c00c20c00c20k0101b1101");
            s.tellsPart(none, 0, 1, "odds", 0, p);
            s.tellsPart(none, 0, 1, "odds", 1, p);
        }
        // GOALS of earlier TERMS do not count.
        CoatGoals x = Checks.with("g0c00c20c00c20p0101");
        x.term();
        x.stand(0, 20);
        s.tellsPart(x, 0, 1, "odds", 0, 5);
        s.answers(x, 2, "count", 3);
    }

    private static void oddsRefused() {
        Sentence s = Sentence.of(34, "BAD; STATE: no PLAYERS.");
        for (int side : Sentence.outside(0, 1)) {
            s.refuses(Ready.republic(MUDDY), BAD, "odds", side, 5);
            s.refuses(Ready.NEW, BAD, "odds", side, 5);
        }
        for (int p : Sentence.outside(0, 12)) {
            s.refuses(Ready.republic(MUDDY), BAD, "odds", 0, p);
            s.refuses(Ready.NEW, BAD, "odds", 1, p);
        }
        s.refuses(Ready.NEW, STATE, "odds", 0, 0);
        s.refuses(Ready.NEW, STATE, "odds", 1, 12);
    }

    private static void midOfBoth() {
        Sentence s = Sentence.of(35, "The mean of how many GOALS both have in it together: 1.");
        for (int p = 0; p <= 12; p++) {
            part(s, Checks.with("g0c05c08c05c08p0071p1071p0071p1071p0071p1071"), 6 * (12 - p), 12, "mid", p);
            part(s, Checks.with("g0c05c08c05c08p0051p1051p0051p1051p0051p1051"), 6 * p, 12, "mid", p);
            part(s, Checks.with("g0c05c08c05c08p0061p1061p0061p1061p0061p1061"), 72, 12, "mid", p);
            part(s, Checks.with("g0c05c08c05c08p0071p1051k0061b1201"), 12 - p, 12, "mid", p);
            part(s, Checks.with("g0c05c08c05c08k0071b1201"), 0, 12, "mid", p);
            part(s, Checks.with("g1c00c01c19c20p0201p1011"), 12 + 12 - p, 12, "mid", p);
        }
    }

    private static void midRefused() {
        Sentence s = Sentence.of(35, "BAD; STATE: no PLAYERS.");
        for (int p : Sentence.outside(0, 12)) {
            s.refuses(Ready.republic(MUDDY), BAD, "mid", p);
            s.refuses(Ready.NEW, BAD, "mid", p);
        }
        s.refuses(Ready.NEW, STATE, "mid", 0);
        s.refuses(Ready.NEW, STATE, "mid", 12);
    }

    /** Does by single calls what a number asks for. */
    private static void doByNumber(CoatGoals twin, int number) {
        int what = number / 8 % 8;
        if (what <= 2) {
            twin.term();
        } else if (what <= 4) {
            twin.nudge(number / 64 % 4, what == 3 ? -1 : 1);
        } else if (what == 5) {
            twin.rain(1 - twin.count(4));
        } else {
            twin.stand(number % twin.count(0), number / 64 % 21);
        }
    }

    private static void sameButDeeds(Sentence s, String call, CoatGoals x, CoatGoals twin) {
        for (int what = 0; what <= 12; what++) {
            if (what != 3) {
                s.due(call + ", count(" + what + ")", x.count(what), twin.count(what));
            }
        }
        for (int i = 0; i < twin.count(0); i++) {
            twin.player(i, 2);
            s.due(call + ", player(" + i + ", 2)", x.player(i, 2), 1);
            s.due(call + ", player(" + i + ", 2), asked()", x.asked(), twin.asked());
        }
    }

    private static void lots(Sentence s, String text, int n, int seed) {
        CoatGoals x = Checks.with(text);
        CoatGoals twin = Checks.with(text);
        BigInteger number = BigInteger.valueOf(seed);
        for (int d = 0; d < n; d++) {
            number = number.multiply(FACTOR).mod(MODULUS);
            doByNumber(twin, number.intValueExact());
        }
        String call = text + ", lots(" + n + ", " + seed + ")";
        s.due(call, x.lots(n, seed), twin.count(9) + twin.count(10));
        s.due(call + ", count(3)", x.count(3), n);
        sameButDeeds(s, call, x, twin);
    }

    private static void lotNumbers() {
        Sentence s = Sentence.ofTerms("LOTS: a number comes from the one ahead by 48271 times it modulo 2147483647,"
            + " the first from a seed (1 .. 2147483646).");
        for (int seed : new int[] {1, 2, 3, 48271, 1073741823, 1073741824, 2147483645, 2147483646}) {
            for (int n = 1; n <= 20; n++) {
                lots(s, MUDDY, n, seed);
            }
        }
        // By hand: from 1 comes 48271, by 8 it is 6033, modulo 8 it is 1: a TERM.
        CoatGoals one = Checks.with(MUDDY);
        s.answers(one, 1, "lots", 1, 1);
        s.answers(one, 1, "count", 2);
        // From 2147483646 comes 2147435376, by 8 it is 268429422, modulo 8 it is 6: of six PLAYERS the first
        // (modulo 6 it is 0) stands at 33553677 modulo 21, which is 9, where it stands: a DEED in any case.
        CoatGoals last = Checks.with(MUDDY);
        s.answers(last, 0, "lots", 1, 2147483646);
        s.answers(last, 1, "count", 3);
        s.tells(last, 2147435376 / 64 % 21, "player", 2147435376 % 6, 2);
    }

    private static void lotsDeeds() {
        Sentence s = Sentence.of(36, "n (1 .. 20) DEEDS truly by LOTS of a seed: for each a number: by what it by 8, cut, modulo 8 is:"
            + " 0 to 2 a TERM, 3, 4 COAT it by 64, cut, modulo 4 is NUDGED by 1 to less (3), to more (4), if it may be,"
            + " 5 it RAINS, or no more, else PLAYER it modulo how many there are stands at it by 64, cut, modulo 21"
            + " (a DEED in any case): all GOALS then.");
        for (int seed = 1; seed <= 200; seed++) {
            lots(s, MUDDY, 20, seed);
            lots(s, "g1c00c01c19c20p0201p1001h0011t1195", 20, 7 * seed);
            lots(s, "g0c09c11c00c20w0055", 1, 1000003 * seed);
        }
        // All GOALS: those of earlier TERMS, of both SIDES.
        CoatGoals x = Checks.with("g0c00c20c00c20p0101p0101p1101");
        x.term();
        x.term();
        s.answers(x, 9, "lots", 1, 1);
        // Truly: it can be undone, one by one.
        CoatGoals all = Checks.with(MUDDY);
        long digest = all.digest();
        all.lots(20, 4711);
        for (int d = 19; d >= 0; d--) {
            s.answers(all, 1, "undo", d);
        }
        s.answers(all, digest, "digest");
    }

    /** The first seed whose number asks for this of 8, and is this modulo so much, by 64. */
    private static int seedFor(int what, int modulo, int of) {
        for (int seed = 1; seed < 1000000; seed++) {
            int number = BigInteger.valueOf(seed).multiply(FACTOR).mod(MODULUS).intValueExact();
            if (number / 8 % 8 == what && number / 64 % of == modulo) {
                return seed;
            }
        }
        throw new IllegalStateException("no such seed");
    }

    private static void lotsInAnyCase() {
        Sentence s = Sentence.of(36, "if it may be, 5 it RAINS, or no more, else PLAYER it modulo how many there are stands at"
            + " it by 64, cut, modulo 21 (a DEED in any case)");
        // Off the common, or not below the other one: the coat stays, the DEED is one.
        int[][] cannot = {{3, 0}, {4, 0}, {3, 1}, {4, 2}, {3, 3}, {4, 3}};
        for (int[] c : cannot) {
            Supplier<CoatGoals> ready = Ready.then(Ready.republic("g0c00c01c19c20p0101"), CoatGoals::term);
            CoatGoals x = ready.get();
            s.answers(x, 0, "lots", 1, seedFor(c[0], c[1], 4));
            s.answers(x, 2, "count", 3);
            s.answers(x, 1, "undo", 1);
            Twins.alike(s, "undone", x, ready.get(), 0);
        }
        int[][] may = {{4, 1, 2}, {3, 2, 18}};
        for (int[] m : may) {
            CoatGoals x = Checks.with("g0c00c01c19c20p0101");
            s.answers(x, 0, "lots", 1, seedFor(m[0], m[1], 4));
            s.answers(x, m[2], "count", 5 + m[1]);
        }
        for (int place = 0; place <= 20; place++) {
            CoatGoals x = Checks.with("g0c00c01c19c20p0101");
            s.answers(x, 0, "lots", 1, seedFor(6 + place % 2, place, 21));
            s.answers(x, 1, "count", 3);
            s.tells(x, place, "player", 0, 2);
        }
    }

    private static void lotsRefused() {
        Sentence s = Sentence.of(36, "BAD; STATE: no PLAYERS;");
        for (int n : Sentence.outside(1, 20)) {
            s.refuses(Ready.republic(MUDDY), BAD, "lots", n, 1);
            s.refuses(Ready.NEW, BAD, "lots", n, 1);
            s.refuses(Ready.deeds(MUDDY, 40), BAD, "lots", n, 1);
        }
        for (int seed : new int[] {0, -1, Integer.MIN_VALUE, 2147483647}) {
            s.refuses(Ready.republic(MUDDY), BAD, "lots", 1, seed);
            s.refuses(Ready.NEW, BAD, "lots", 20, seed);
            s.refuses(Ready.deeds(MUDDY, 40), BAD, "lots", 1, seed);
        }
        s.refuses(Ready.NEW, STATE, "lots", 1, 1);
        s.refuses(Ready.NEW, STATE, "lots", 20, 2147483646);
    }

    private static void lotsFull() {
        Sentence s = Sentence.of(36, "FULL: with n more there would be more than 40 DEEDS. (FULL last.)");
        for (int n = 1; n <= 20; n++) {
            CoatGoals x = Ready.deeds(MUDDY, 40 - n).get();
            s.due("lots(" + n + ", 1) up to 40 not refused", x.lots(n, 1) >= 0 ? 1 : 0, 1);
            s.answers(x, 40, "count", 3);
            s.refuses(Ready.deeds(MUDDY, 41 - n), FULL, "lots", n, 1);
        }
        s.refuses(Ready.deeds(MUDDY, 40), FULL, "lots", 20, 2147483646);
    }
}
