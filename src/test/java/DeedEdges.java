import java.util.List;
import java.util.function.Supplier;

/** Promises 14 to 20, sentence by sentence, with what "Terms" says of deeds. */
final class DeedEdges {
    private static final int BAD = CoatGoals.BAD, FULL = CoatGoals.FULL, STATE = CoatGoals.STATE;
    private static final int NOTHING = 1;
    private static final String MUDDY = Checks.MUDDY;

    private DeedEdges() {
    }

    static void run() {
        atFirst();
        goals();
        seen();
        deeds();
        termAnswers();
        termRefused();
        nudgeAnswers();
        nudgeBad();
        nudgeState();
        nudgeFull();
        rainIs();
        rainRefused();
        standStood();
        standRefused();
        undoMany();
        undoBad();
        keepMany();
        keepRefused();
        onMany();
        onDeedByDeed();
        onRefused();
    }

    private static void atFirst() {
        Sentence s = Sentence.ofTerms("TERM 0 is next at first; no GOALS, no RAIN.");
        CoatGoals x = Checks.with(MUDDY);
        for (int what : new int[] {2, 9, 10, 4, 3}) {
            s.answers(x, 0, "count", what);
            s.answers(new CoatGoals(), 0, "count", what);
        }
        s.answers(x, STATE, "rain", 0);
    }

    private static void goals() {
        Sentence s = Sentence.ofTerms("A TERM: each PLAYER that shoots has 1 GOAL more for its SIDE, if its ball is IN."
            + " The next TERM's number is 1 more.");
        CoatGoals x = Checks.with("g0c00c20c00c20p0101p0101p0101p1101p0201k1201");
        for (int d = 1; d <= 40; d++) {
            s.answers(x, 15, "term");
            s.answers(x, d, "count", 2);
            s.answers(x, 3 * d, "count", 9);
            s.answers(x, d, "count", 10);
        }
        CoatGoals none = Checks.with("g0c00c20c00c20k0101b1101");
        s.answers(none, 0, "term");
        s.answers(none, 0, "count", 9);
        s.answers(none, 1, "count", 2);
    }

    private static void seen() {
        Sentence s = Sentence.ofTerms("A COAT that is NUDGED is at another PLACE, 1 to 3 off; it is SEEN by PLAYERS of the SIDE"
            + " that keeps that END who are 3 PLACES or less from it, as it is ahead of that.");
        for (int k = 0; k <= 3; k++) {
            int at = k % 2 == 0 ? 8 : 12;
            for (int n : new int[] {-3, -2, -1, 1, 2, 3}) {
                for (int place = 0; place <= 20; place++) {
                    for (int side = 0; side <= 1; side++) {
                        CoatGoals x = Checks.with("g0c08c12c08c12p" + side + Checks.two(place) + "1");
                        boolean sees = side == k / 2 && Math.abs(place - at) <= 3;
                        s.answers(x, sees ? 1 : 0, "nudge", k, n);
                        s.answers(x, at + n, "count", 5 + k);
                    }
                }
            }
        }
    }

    private static void deeds() {
        Sentence s = Sentence.ofTerms("What is done: a TERM, a COAT NUDGED, RAIN begins, or ends, a PLAYER stands elsewhere."
            + " These are DEEDS 0, 1, .. (40 at most).");
        CoatGoals x = Checks.with(MUDDY);
        s.answers(x, 0, "count", 3);
        x.term();
        s.answers(x, 1, "count", 3);
        x.nudge(0, 1);
        s.answers(x, 2, "count", 3);
        x.rain(1);
        s.answers(x, 3, "count", 3);
        x.rain(0);
        s.answers(x, 4, "count", 3);
        x.stand(0, 0);
        s.answers(x, 5, "count", 3);
        // Refused ones, and what is asked aside, are none.
        x.stand(0, 0);
        x.rain(0);
        x.nudge(0, 0);
        x.lead(40);
        x.duel(2);
        x.amend(0, 1, 0);
        x.keep(0);
        s.answers(x, 5, "count", 3);
        for (int d = 5; d < 40; d++) {
            x.term();
        }
        s.answers(x, 40, "count", 3);
        s.answers(x, FULL, "term");
        s.answers(x, 40, "count", 3);
    }

    private static void termAnswers() {
        Sentence s = Sentence.of(14, "A TERM: whose balls are IN (bits).");
        s.answers(Checks.with("g1c00c20c00c20p0001p1001p0201p1201w0209h1001"), 63, "term");
        s.answers(Checks.with("g0c00c20c00c20p0001p1001p0201p1201w0209h1001"), 0, "term");
        s.answers(Checks.with("g0c00c20c00c20k0011b1191k0191b1011"), 0, "term");
        s.answers(Checks.with("g0c00c20c00c20k0011b1191k0191b1011p0101p1101"), 48, "term");
        s.answers(Checks.with("g0c00c01c09c11p0101"), 1, "term");
        // With SCHOOL 0 nothing is between coats that lie side by side.
        s.answers(Checks.with("g0c00c01c10c11p0101p0111"), 0, "term");
        s.answers(Checks.with("g1c00c01c10c11p0101p0111p0091p0121"), 3, "term");
    }

    private static void termRefused() {
        Sentence s = Sentence.of(14, "STATE: no PLAYERS; FULL: 40 DEEDS. (FULL last.)");
        s.refuses(Ready.NEW, STATE, "term");
        s.refuses(Ready.deeds(MUDDY, 40), FULL, "term");
        CoatGoals x = Ready.deeds(MUDDY, 39).get();
        s.due("the 40th, term() not refused", x.term() >= 0 ? 1 : 0, 1);
        s.answers(x, 40, "count", 3);
        s.answers(x, FULL, "term");
    }

    private static void nudgeAnswers() {
        Sentence s = Sentence.of(15, "COAT k (0 .. 3) is NUDGED by n (-3 .. 3, not 0): by whom it is SEEN (bits).");
        for (int k = 0; k <= 3; k++) {
            for (int n : new int[] {-3, -2, -1, 1, 2, 3}) {
                CoatGoals x = Checks.with("g0c08c12c08c12p0101p1101p0101p1101p0101p1101");
                s.answers(x, k <= 1 ? 21 : 42, "nudge", k, n);
                for (int other = 0; other <= 3; other++) {
                    s.answers(x, (other % 2 == 0 ? 8 : 12) + (other == k ? n : 0), "count", 5 + other);
                }
                s.answers(x, 1, "count", 3);
            }
        }
        s.answers(Checks.with("g0c00c20c00c20p0001p0031p0041p0201p0171p0161"), 3, "nudge", 0, 1);
        s.answers(Checks.with("g0c00c20c00c20p0001p0031p0041p0201p0171p0161"), 24, "nudge", 1, -1);
        s.answers(Checks.with("g0c00c20c00c20p0001p0031p0041p0201p0171p0161"), 0, "nudge", 2, 1);
    }

    private static void nudgeBad() {
        Sentence s = Sentence.of(15, "BAD;");
        int[] outsideN = {-4, 4, 0, Integer.MIN_VALUE, Integer.MAX_VALUE};
        for (Supplier<CoatGoals> ready : refusing()) {
            for (int k : Sentence.outside(0, 3)) {
                s.refuses(ready, BAD, "nudge", k, 1);
            }
            for (int n : outsideN) {
                s.refuses(ready, BAD, "nudge", 0, n);
                s.refuses(ready, BAD, "nudge", 3, n);
            }
        }
    }

    /** With players, without any, and full of deeds. */
    private static List<Supplier<CoatGoals>> refusing() {
        return List.of(Ready.republic(MUDDY), Ready.NEW, Ready.deeds(MUDDY, 40));
    }

    private static void nudgeState() {
        Sentence s = Sentence.of(15, "STATE: no PLAYERS, it would be below 0, above 20,"
            + " not below (above) the other one of that END as told;");
        for (int k = 0; k <= 3; k++) {
            s.refuses(Ready.NEW, STATE, "nudge", k, 1);
            s.refuses(Ready.NEW, STATE, "nudge", k, -3);
        }
        for (int end = 0; end <= 1; end++) {
            for (int off = 1; off <= 3; off++) {
                for (int room = 0; room <= 4; room++) {
                    nudgeToEdge(s, end, off, room);
                    nudgeToOther(s, end, off, room);
                }
            }
        }
    }

    private static String coats(int end, int low, int high) {
        String pair = "c" + Checks.two(low) + "c" + Checks.two(high);
        return end == 0 ? "g0" + pair + "c09c10p0101p1101" : "g0c09c10" + pair + "p0101p1101";
    }

    private static void nudged(Sentence s, boolean may, String text, int k, int n) {
        if (may) {
            CoatGoals x = Checks.with(text);
            int was = x.count(5 + k);
            s.due(text + ", nudge(" + k + ", " + n + ") is taken", x.nudge(k, n) >= 0 ? 1 : 0, 1);
            s.answers(x, was + n, "count", 5 + k);
        } else {
            s.refuses(Ready.republic(text), STATE, "nudge", k, n);
        }
    }

    /** Both coats with so much room to the edge. */
    private static void nudgeToEdge(Sentence s, int end, int off, int room) {
        nudged(s, off <= room, coats(end, room, 20), 2 * end, -off);
        nudged(s, off <= room, coats(end, 0, 20 - room), 2 * end + 1, off);
    }

    /** Both coats with so many places between them: just one less than the other's is still below it. */
    private static void nudgeToOther(Sentence s, int end, int off, int room) {
        nudged(s, off <= room, coats(end, 10, 11 + room), 2 * end, off);
        nudged(s, off <= room, coats(end, 10, 11 + room), 2 * end + 1, -off);
    }

    private static void nudgeFull() {
        Sentence s = Sentence.of(15, "FULL. (FULL last.)");
        // Behind the 40 deeds coats are at 5, 12, 3, 15 still.
        Supplier<CoatGoals> full = Ready.deeds(MUDDY, 40);
        for (int k = 0; k <= 3; k++) {
            s.refuses(full, FULL, "nudge", k, 1);
            s.refuses(full, FULL, "nudge", k, -3);
        }
        Supplier<CoatGoals> narrow = Ready.then(Ready.republic("g0c00c01c19c20p0094"), x -> {
            for (int d = 0; d < 40; d++) {
                x.term();
            }
        });
        int[][] cannot = {{0, -1}, {0, 1}, {1, -1}, {2, 1}, {3, 1}, {3, -1}};
        for (int[] c : cannot) {
            s.refuses(narrow, STATE, "nudge", c);
        }
        s.refuses(narrow, FULL, "nudge", 1, 1);
        s.refuses(narrow, FULL, "nudge", 2, -3);
        s.refuses(Ready.NEW, STATE, "nudge", 0, 1);
        CoatGoals x = Ready.deeds(MUDDY, 39).get();
        s.due("the 40th, nudge(0, 1) not refused", x.nudge(0, 1) >= 0 ? 1 : 0, 1);
        s.answers(x, FULL, "nudge", 0, 1);
    }

    private static void rainIs() {
        Sentence s = Sentence.of(16, "RAIN (1) or none (0): what it is then.");
        CoatGoals x = Checks.with(MUDDY);
        for (int d = 0; d < 40; d++) {
            s.answers(x, 1 - d % 2, "rain", 1 - d % 2);
            s.answers(x, 1 - d % 2, "count", 4);
        }
    }

    private static void rainRefused() {
        Sentence s = Sentence.of(16, "BAD; STATE: no PLAYERS, or it is so; FULL. (FULL last.)");
        for (Supplier<CoatGoals> ready : refusing()) {
            for (int is : Sentence.outside(0, 1)) {
                s.refuses(ready, BAD, "rain", is);
            }
        }
        s.refuses(Ready.NEW, STATE, "rain", 0);
        s.refuses(Ready.NEW, STATE, "rain", 1);
        s.refuses(Ready.republic(MUDDY), STATE, "rain", 0);
        s.refuses(Ready.then(Ready.republic(MUDDY), x -> x.rain(1)), STATE, "rain", 1);
        // Ten of the 40 deeds are rain, the last of which ends it.
        s.refuses(Ready.deeds(MUDDY, 40), STATE, "rain", 0);
        s.refuses(Ready.deeds(MUDDY, 40), FULL, "rain", 1);
        CoatGoals x = Ready.deeds(MUDDY, 39).get();
        s.answers(x, 1, "rain", 1);
        s.answers(x, FULL, "rain", 0);
        s.answers(x, STATE, "rain", 1);
    }

    private static void standStood() {
        Sentence s = Sentence.of(17, "A PLAYER stands at a PLACE (0 .. 20): where it stood.");
        CoatGoals x = Checks.with(MUDDY);
        int[] stood = {9, 5, 10, 11, 8, 13};
        for (int i = 0; i <= 5; i++) {
            s.answers(x, stood[i], "stand", i, 0);
            s.tells(x, 0, "player", i, 2);
            s.answers(x, 0, "stand", i, 20);
            s.tells(x, 20, "player", i, 2);
            s.answers(x, 20, "stand", i, 19);
            s.answers(x, 3 * i + 3, "count", 3);
        }
        // Where others stand is no hindrance.
        s.answers(x, 19, "stand", 0, 1);
        s.answers(x, 19, "stand", 1, 1);
    }

    private static void standRefused() {
        Sentence s = Sentence.of(17, "BAD; STATE: it stands there; FULL. (FULL last.)");
        for (Supplier<CoatGoals> ready : refusing()) {
            for (int i : Sentence.outside(0, 5)) {
                s.refuses(ready, BAD, "stand", i, 1);
            }
            for (int place : Sentence.outside(0, 20)) {
                s.refuses(ready, BAD, "stand", 0, place);
                s.refuses(ready, BAD, "stand", 5, place);
            }
        }
        s.refuses(Ready.NEW, BAD, "stand", 0, 1);
        s.refuses(Ready.republic("g0c00c01c19c20p0001"), BAD, "stand", 1, 1);
        s.refuses(Ready.republic("g0c00c01c19c20p0001"), STATE, "stand", 0, 0);
        s.refuses(Ready.republic("g0c00c01c19c20p0201"), STATE, "stand", 0, 20);
        s.refuses(Ready.republic(MUDDY), STATE, "stand", 5, 13);
        s.refuses(Ready.deeds(MUDDY, 40), STATE, "stand", 0, 9);
        s.refuses(Ready.deeds(MUDDY, 40), FULL, "stand", 0, 8);
        s.refuses(Ready.deeds(MUDDY, 40), FULL, "stand", 5, 0);
        s.refuses(Ready.deeds(MUDDY, 40), STATE, "stand", 5, 13);
        CoatGoals x = Ready.deeds(MUDDY, 39).get();
        s.answers(x, 13, "stand", 5, 20);
        s.answers(x, FULL, "stand", 5, 19);
        s.answers(x, STATE, "stand", 5, 20);
    }

    private static void undoMany() {
        Sentence s = Sentence.of(18, "DEEDS from number n on are undone: how many.");
        for (int n = 0; n <= 40; n++) {
            CoatGoals x = Ready.deeds(MUDDY, 40).get();
            s.answers(x, 40 - n, "undo", n);
            s.answers(x, n, "count", 3);
            CoatGoals twin = Ready.deeds(MUDDY, n).get();
            // Kept ones differ: those of x stay, with 40 deeds.
            x.keep(1);
            Twins.alike(s, "undo(" + n + ") of 40", x, twin, 0);
        }
        CoatGoals x = Checks.with(MUDDY);
        s.answers(x, 0, "undo", 0);
        s.answers(new CoatGoals(), 0, "undo", 0);
        // What is undone leaves room for others, and what is kept as it was.
        CoatGoals full = Ready.deeds(MUDDY, 40).get();
        s.answers(full, 1, "undo", 39);
        s.answers(full, 9, "stand", 0, 20);
        s.answers(full, FULL, "term");
        s.answers(full, 40, "on", 1);
        s.tells(full, 9, "player", 0, 2);
    }

    private static void undoBad() {
        Sentence s = Sentence.of(18, "BAD.");
        for (int n : Sentence.outside(0, 40)) {
            s.refuses(Ready.deeds(MUDDY, 40), BAD, "undo", n);
        }
        for (int n : Sentence.outside(0, 3)) {
            s.refuses(Ready.deeds(MUDDY, 3), BAD, "undo", n);
        }
        for (int n : Sentence.outside(0, 0)) {
            s.refuses(Ready.republic(MUDDY), BAD, "undo", n);
            s.refuses(Ready.NEW, BAD, "undo", n);
        }
    }

    private static void keepMany() {
        Sentence s = Sentence.of(19, "The REPUBLIC (as it is, DEEDS) is kept in a place (0 .. 2): how many DEEDS.");
        for (int k = 0; k <= 2; k++) {
            for (int deeds : new int[] {0, 1, 39, 40}) {
                CoatGoals x = Ready.deeds(MUDDY, deeds).get();
                s.answers(x, deeds, "keep", k);
                s.answers(x, deeds, "count", 3);
                s.answers(x, k == 1 ? 1 : 2, "count", 15);
                long digest = x.digest();
                x.undo(0);
                s.answers(x, 0, "count", 3);
                s.answers(x, deeds, "on", k);
                s.answers(x, digest, "digest");
                s.answers(x, deeds, "undo", 0);
            }
        }
        // Over what was kept there.
        CoatGoals x = Ready.deeds(MUDDY, 40).get();
        x.undo(5);
        s.answers(x, 5, "keep", 1);
        s.answers(x, 1, "count", 15);
        s.answers(x, 5, "on", 1);
    }

    private static void keepRefused() {
        Sentence s = Sentence.of(19, "BAD; STATE: no PLAYERS.");
        for (int k : Sentence.outside(0, 2)) {
            s.refuses(Ready.deeds(MUDDY, 3), BAD, "keep", k);
            s.refuses(Ready.NEW, BAD, "keep", k);
        }
        for (int k = 0; k <= 2; k++) {
            s.refuses(Ready.NEW, STATE, "keep", k);
        }
    }

    private static void onMany() {
        Sentence s = Sentence.of(20, "The REPUBLIC is as it was kept: how many DEEDS.");
        for (int deeds : new int[] {0, 1, 40}) {
            CoatGoals x = Ready.deeds(MUDDY, deeds).get();
            CoatGoals twin = Ready.deeds(MUDDY, deeds).get();
            x.undo(0);
            x.nudge(0, -3);
            x.stand(5, 0);
            x.rain(1);
            x.term();
            s.answers(x, deeds, "on", 1);
            Twins.alike(s, "on(1)", x, twin, 0);
        }
        // GOALS of both SIDES.
        CoatGoals both = Checks.with("g0c00c20c00c20p0101p1101p1101");
        both.term();
        both.keep(0);
        both.term();
        s.answers(both, 1, "on", 0);
        s.answers(both, 1, "count", 9);
        s.answers(both, 2, "count", 10);
        // As often as wanted, and from each place what was kept there.
        CoatGoals x = Checks.with(MUDDY);
        for (int k = 0; k <= 2; k++) {
            x.keep(k);
            x.term();
        }
        for (int k : new int[] {2, 0, 1, 1, 2}) {
            s.answers(x, k, "on", k);
            s.answers(x, k, "count", 2);
            s.answers(x, 3, "count", 15);
        }
    }

    /** One of several deeds, unlike in sort, in whom or what they are of, and in how that was. */
    private static void oneOf(CoatGoals x, int which) {
        switch (which) {
            case 0:
                x.term();
                break;
            case 1:
                x.rain(1 - x.count(4));
                break;
            case 2:
            case 3:
                x.nudge(which, which == 2 ? -1 : 1);
                break;
            default:
                x.stand(which, 2);
                break;
        }
    }

    /** Another deed was done in a kept one's stead: with the kept republic the kept deed is there again, to be undone. */
    private static void onDeedByDeed() {
        Sentence s = Sentence.of(20, "The REPUBLIC is as it was kept: how many DEEDS.");
        for (int n : new int[] {0, 1, 20, 38, 39}) {
            for (int of = 0; of <= 5; of++) {
                for (int other = 0; other <= 5; other++) {
                    int k = (n + of + other) % 3;
                    CoatGoals x = Ready.deeds(MUDDY, n).get();
                    long ahead = x.digest();
                    oneOf(x, of);
                    x.keep(k);
                    x.undo(n);
                    oneOf(x, other);
                    String call = "deed " + n + " is " + of + ", then " + other + ", then on(" + k + ")";
                    s.due(call, x.on(k), n + 1);
                    s.due(call + ", undo(" + n + ")", x.undo(n), 1);
                    CoatGoals twin = Ready.deeds(MUDDY, n).get();
                    s.due("made alike", twin.digest(), ahead);
                    oneOf(twin, of);
                    twin.keep(k);
                    twin.undo(n);
                    s.due(call + ", undo(" + n + "), digest()", x.digest(), twin.digest());
                    for (int i = 0; i <= 5; i++) {
                        s.due(call + ", then where " + i + " stands", x.player(i, 2) + 100 * x.asked(),
                            twin.player(i, 2) + 100 * twin.asked());
                    }
                }
            }
        }
    }

    private static void onRefused() {
        Sentence s = Sentence.of(20, "BAD; NOTHING.");
        for (int k : Sentence.outside(0, 2)) {
            s.refuses(Ready.deeds(MUDDY, 3), BAD, "on", k);
            s.refuses(Ready.NEW, BAD, "on", k);
        }
        for (int k = 0; k <= 2; k++) {
            s.finds(Ready.NEW, NOTHING, "on", k);
            s.finds(Ready.republic(MUDDY), NOTHING, "on", k);
        }
        s.finds(Ready.deeds(MUDDY, 3), NOTHING, "on", 0);
        s.finds(Ready.deeds(MUDDY, 3), NOTHING, "on", 2);
    }
}
