/** Promises 12 and 13, sentence by sentence: player, mark. */
final class PlayerEdges {
    private static final int BAD = CoatGoals.BAD, NONE = CoatGoals.NONE, UNLIKE = 3;
    private static final String HEAD = "g0c05c12c03c15";

    private PlayerEdges() {
    }

    static void run() {
        playerTells();
        playerBad();
        winger();
        keeper();
        heavy();
        captain();
        boy();
        markRefused();
    }

    private static void facts(Sentence s, CoatGoals x, int i, int... facts) {
        for (int what = 0; what < facts.length; what++) {
            s.tells(x, facts[what], "player", i, what);
        }
    }

    private static void playerTells() {
        Sentence s = Sentence.of(12, "Of a PLAYER: 0 the KIND, 1 the SIDE, 2 the PLACE, 3 the STRENGTH,"
            + " 4 where its ball LANDS (NONE: it does not shoot), 5 whether it is IN, as all is now (1, 0),"
            + " 6 how far it REACHES (NONE: it does not), told by asked(): 1.");
        CoatGoals x = Checks.with("g1c00c20c00c20p0001w1209k0001k1209h0021b1209");
        facts(s, x, 0, 0, 0, 0, 1, 0, 1, NONE);
        facts(s, x, 1, 1, 1, 20, 9, 20, 1, NONE);
        facts(s, x, 2, 2, 0, 0, 1, NONE, 0, 0);
        facts(s, x, 3, 2, 1, 20, 9, NONE, 0, 3);
        facts(s, x, 4, 3, 0, 2, 1, 2, 1, NONE);
        facts(s, x, 5, 5, 1, 20, 9, NONE, 0, 4);
        // As all is now: behind rain, a coat nudged, a player that stands elsewhere, all of it undone.
        CoatGoals now = Checks.with("g0c00c20c05c10h0061p0041k1203");
        facts(s, now, 0, 3, 0, 6, 1, 6, 1, NONE);
        now.rain(1);
        facts(s, now, 0, 3, 0, 6, 1, 4, 0, NONE);
        now.nudge(2, -2);
        facts(s, now, 0, 3, 0, 6, 1, 4, 1, NONE);
        now.stand(2, 5);
        facts(s, now, 0, 3, 0, 6, 1, 4, 0, NONE);
        now.stand(0, 10);
        facts(s, now, 0, 3, 0, 10, 1, 8, 1, NONE);
        now.undo(0);
        facts(s, now, 0, 3, 0, 6, 1, 6, 1, NONE);
    }

    private static void playerBad() {
        Sentence s = Sentence.of(12, "BAD.");
        for (int what = 0; what <= 6; what++) {
            for (int i : Sentence.outside(0, 0)) {
                s.refuses(Ready.republic(HEAD + "p0004"), BAD, "player", i, what);
            }
            for (int i : Sentence.outside(0, 5)) {
                s.refuses(Ready.republic(Checks.MUDDY), BAD, "player", i, what);
            }
            s.refuses(Ready.NEW, BAD, "player", 0, what);
        }
        for (int what : Sentence.outside(0, 6)) {
            s.refuses(Ready.republic(Checks.MUDDY), BAD, "player", 0, what);
            s.refuses(Ready.republic(Checks.MUDDY), BAD, "player", 5, what);
        }
    }

    /** Of one player, standing so and with or without rain. */
    private static void mark(Sentence s, int want, int kind, String player, int rain) {
        CoatGoals x = Checks.with(HEAD + player);
        x.rain(rain);
        s.due(player + (rain == 1 ? " in rain" : "") + ", mark(0, " + kind + ")", x.mark(0, kind), want);
    }

    private static void winger() {
        Sentence s = Sentence.of(13, "What a PLAYER that IS of a KIND tells:"
            + " a WINGER (CAPTAIN, too) how far its ball LANDS from its PLACE,");
        for (int rain = 0; rain <= 1; rain++) {
            mark(s, 1, 1, "w0001", rain);
            mark(s, 9, 1, "w0009", rain);
            mark(s, 9, 1, "w1119", rain);
            mark(s, 8, 1, "w1129", rain);
            mark(s, 1, 1, "w0199", rain);
            mark(s, 0, 1, "w0209", rain);
            mark(s, 0, 1, "t0209", rain);
        }
        mark(s, 0, 1, "t0001", 0);
        mark(s, 1, 1, "t0001", 1);
        mark(s, 4, 1, "t0009", 0);
        mark(s, 9, 1, "t0009", 1);
        mark(s, 4, 1, "t1169", 0);
        mark(s, 3, 1, "t1179", 0);
        mark(s, 8, 1, "t1129", 1);
    }

    private static void keeper() {
        Sentence s = Sentence.of(13, "a KEEPER (BOY, too) how many PLACES (0 .. 20) it REACHES,");
        mark(s, 1, 2, "k0001", 0);
        mark(s, 1, 2, "k0202", 0);
        mark(s, 2, 2, "k0003", 0);
        mark(s, 3, 2, "k0013", 0);
        mark(s, 2, 2, "k1205", 1);
        mark(s, 3, 2, "k1193", 1);
        mark(s, 7, 2, "k1109", 0);
        mark(s, 7, 2, "k0039", 0);
        mark(s, 6, 2, "k0029", 0);
        mark(s, 4, 2, "k0009", 0);
        mark(s, 7, 2, "k0179", 0);
        mark(s, 6, 2, "k0189", 0);
        mark(s, 4, 2, "k0209", 0);
        mark(s, 2, 2, "b0001", 0);
        mark(s, 3, 2, "b0011", 0);
        mark(s, 2, 2, "b0202", 0);
        mark(s, 9, 2, "b0109", 0);
        mark(s, 5, 2, "b0009", 0);
        mark(s, 8, 2, "b0039", 0);
        mark(s, 5, 2, "b0209", 0);
    }

    private static void heavy() {
        Sentence s = Sentence.of(13, "a HEAVY one how many balls of its SIDE LAND where its own does, its own, too,");
        mark(s, 1, 3, "h0101", 0);
        mark(s, 6, 3, "h0101h0109p0101w0091t0084w0019", 0);
        mark(s, 1, 3, "h0101p1101k0101b0101h1101p0111", 0);
        // In rain all that stand at 0 to 2 land at 0.
        mark(s, 4, 3, "h1001h1011h1021p1001h1031p0001", 1);
        mark(s, 2, 3, "h1001h1011h1021p1001h1031p0001", 0);
        mark(s, 3, 3, "h0201p0201w0209h0191", 0);
        mark(s, 1, 3, "h0201p0201w0209h0191", 1);
    }

    private static void captain() {
        Sentence s = Sentence.of(13, "a CAPTAIN how much further its ball would LAND, were it RAIN or not the other way round,"
            + " further off or nearer,");
        for (int rain = 0; rain <= 1; rain++) {
            mark(s, 1, 4, "t0001", rain);
            mark(s, 1, 4, "t0002", rain);
            mark(s, 2, 4, "t0003", rain);
            mark(s, 5, 4, "t0009", rain);
            mark(s, 5, 4, "t0119", rain);
            mark(s, 4, 4, "t0129", rain);
            mark(s, 1, 4, "t0159", rain);
            mark(s, 0, 4, "t0169", rain);
            mark(s, 1, 4, "t0191", rain);
            mark(s, 0, 4, "t0201", rain);
        }
    }

    private static void boy() {
        Sentence s = Sentence.of(13, "a BOY how many balls of the other SIDE LAND where it REACHES.");
        mark(s, 0, 5, "b0001", 0);
        mark(s, 5, 5, "b0009p1001p1011p1021p1031p1041", 0);
        mark(s, 3, 5, "b1101p0081p0091p0101p0111p0121", 0);
        mark(s, 4, 5, "b1199p0141p0151w0161p0201h0151", 0);
        mark(s, 0, 5, "b0109p0101k1101b1101h0101w0101", 0);
        mark(s, 0, 5, "b0001h1021h1031", 0);
        mark(s, 2, 5, "b0001h1021h1031", 1);
    }

    private static void markRefused() {
        Sentence s = Sentence.of(13, "BAD: also KIND 0; UNLIKE.");
        for (int kind : Sentence.outside(1, 5)) {
            for (int i = 0; i <= 5; i++) {
                s.refuses(Ready.republic(Checks.MUDDY), BAD, "mark", i, kind);
            }
        }
        for (int kind = 0; kind <= 6; kind++) {
            for (int i : Sentence.outside(0, 5)) {
                s.refuses(Ready.republic(Checks.MUDDY), BAD, "mark", i, kind);
            }
            s.refuses(Ready.NEW, BAD, "mark", 0, kind);
            s.refuses(Ready.republic(HEAD + "w0001"), BAD, "mark", 1, kind);
        }
        // The players of MUDDY are of the kinds 0 to 5, in this order.
        int[] is = {0, 2, 4, 8, 2 + 16, 4 + 32};
        for (int i = 0; i <= 5; i++) {
            for (int kind = 1; kind <= 5; kind++) {
                if ((is[i] >> kind & 1) == 0) {
                    s.finds(Ready.republic(Checks.MUDDY), UNLIKE, "mark", i, kind);
                }
            }
        }
    }
}
