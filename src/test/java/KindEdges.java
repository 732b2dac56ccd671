/** The section "Terms", sentence by sentence, where it says what kinds do, and when a ball is in. */
final class KindEdges {
    private static final int NONE = CoatGoals.NONE;
    private static final String LETTERS = "pwkhtb";

    private KindEdges() {
    }

    static void run() {
        kinds();
        ends();
        lands();
        reaches();
        othersDoNotReach();
        isIn();
    }

    private static void kinds() {
        Sentence s = Sentence.ofTerms("KINDS of PLAYERS and letters: 0 PLAYER (p, 112), 1 WINGER (w, 119; a PLAYER),"
            + " 2 KEEPER (k, 107; a PLAYER), 3 HEAVY (h, 104; a PLAYER), 4 CAPTAIN (t, 116; a WINGER), 5 BOY (b, 98; a KEEPER).");
        int[] letters = {112, 119, 107, 104, 116, 98};
        int[] is = {1, 2, 4, 8, 2 + 16, 4 + 32};
        for (int kind = 0; kind <= 5; kind++) {
            CoatGoals x = Checks.with("g0c05c12c03c15" + (char) letters[kind] + "0001");
            s.tells(x, kind, "player", 0, 0);
            for (int of = 1; of <= 5; of++) {
                s.due("mark(0, " + of + ") of kind " + kind, x.mark(0, of) == CoatGoals.FINDING ? 0 : 1, is[kind] >> of & 1);
            }
        }
    }

    private static void ends() {
        Sentence s = Sentence.ofTerms("COATS 0, 1 are those of END 0, which SIDE 0 keeps, COATS 2, 3 of END 1, SIDE 1's."
            + " A PLAYER shoots at the other SIDE's END:");
        CoatGoals x = Checks.with("g1c00c01c19c20p0191p0001p1001p1191");
        s.answers(x, Checks.bits(0, 2), "term");
        s.answers(x, 1, "count", 9);
        s.answers(x, 1, "count", 10);
        int[] inAt = {Checks.bits(0, 1), Checks.bits(19, 20)};
        for (int end = 0; end <= 1; end++) {
            for (int p = 0; p <= 20; p++) {
                s.answers(x, inAt[end] >> p & 1, "in", end, p);
            }
        }
        // Of the four, SIDE 0's are 19 and 0, SIDE 1's 0 and 19: each END's coats are seen by its own.
        int[] seers = {Checks.bits(1), Checks.bits(1), Checks.bits(3), Checks.bits(3)};
        for (int k = 0; k <= 3; k++) {
            s.answers(x, seers[k], "seen", k);
        }
    }

    private static int due(int kind, int place, int strength, int rain) {
        int[] further = {0, strength, 0, rain == 1 ? -2 : 0, rain == 1 ? strength : strength / 2, 0};
        return kind == 2 || kind == 5 ? NONE : Math.max(0, Math.min(20, place + further[kind]));
    }

    private static void lands() {
        Sentence s = Sentence.ofTerms("its ball LANDS at its PLACE; a WINGER's its STRENGTH further; a HEAVY one's 2 less in RAIN;"
            + " a CAPTAIN's as a WINGER's in RAIN, else half its STRENGTH (cut) further; all 0 at least, 20 at most.");
        for (int kind = 0; kind <= 5; kind++) {
            for (int strength = 1; strength <= 9; strength++) {
                CoatGoals x = Checks.with("g0c05c12c03c15" + LETTERS.charAt(kind) + (strength % 2) + "10" + strength);
                for (int place = 0; place <= 20; place++) {
                    s.answers(x, due(kind, place, strength, 0), "lands", 0, place, 0);
                    s.answers(x, due(kind, place, strength, 1), "lands", 0, place, 1);
                }
                for (int rain = 0; rain <= 1; rain++) {
                    x.rain(rain);
                    for (int place : new int[] {0, 1, 2, 3, 11, 12, 16, 17, 19, 20}) {
                        x.stand(0, place);
                        s.tells(x, due(kind, place, strength, rain), "player", 0, 4);
                    }
                }
            }
        }
        // Worked out by hand, at the edges.
        int[][] byHand = {{1, 11, 9, 0, 20}, {1, 12, 9, 0, 20}, {1, 10, 9, 0, 19}, {3, 2, 9, 1, 0}, {3, 1, 9, 1, 0},
            {3, 3, 9, 1, 1}, {3, 0, 9, 0, 0}, {4, 16, 9, 0, 20}, {4, 15, 9, 0, 19}, {4, 17, 9, 0, 20}, {4, 5, 1, 0, 5},
            {4, 5, 1, 1, 6}, {4, 11, 9, 1, 20}, {0, 20, 9, 1, 20}, {0, 0, 9, 1, 0}};
        for (int[] h : byHand) {
            CoatGoals x = Checks.with("g0c05c12c03c15" + LETTERS.charAt(h[0]) + "0" + Checks.two(h[1]) + h[2]);
            s.answers(x, h[4], "lands", 0, h[1], h[3]);
        }
    }

    private static void reaches() {
        Sentence s = Sentence.ofTerms("A KEEPER (BOY, too) does not shoot, but REACHES from its PLACE as far as its STRENGTH by 3 (cut),"
            + " a BOY 1 further;");
        int[] far = {0, 0, 0, 1, 1, 1, 2, 2, 2, 3};
        for (int strength = 1; strength <= 9; strength++) {
            for (int place = 0; place <= 20; place++) {
                for (int boy = 0; boy <= 1; boy++) {
                    int side = place % 2;
                    // With SCHOOL 1 and coats at 0 and 20 a ball is in wherever none reaches.
                    CoatGoals x = Checks.with("g1c00c20c00c20" + (boy == 1 ? "b" : "k") + side + Checks.two(place) + strength);
                    s.tells(x, far[strength] + boy, "player", 0, 6);
                    s.tells(x, NONE, "player", 0, 4);
                    s.tells(x, 0, "player", 0, 5);
                    s.answers(x, NONE, "lands", 0, place, 1);
                    s.answers(x, 0, "term");
                    for (int p = 0; p <= 20; p++) {
                        s.answers(x, Math.abs(p - place) <= far[strength] + boy ? 0 : 1, "in", side, p);
                        s.answers(x, 1, "in", 1 - side, p);
                    }
                }
            }
        }
    }

    private static void othersDoNotReach() {
        Sentence s = Sentence.ofTerms("all others do not REACH at all.");
        for (char letter : "pwht".toCharArray()) {
            CoatGoals x = Checks.with("g1c00c20c00c20" + letter + "0109" + letter + "1109");
            for (int i = 0; i <= 1; i++) {
                s.tells(x, NONE, "player", i, 6);
            }
            for (int p = 0; p <= 20; p++) {
                s.answers(x, 1, "in", 0, p);
                s.answers(x, 1, "in", 1, p);
            }
        }
    }

    private static void isIn() {
        Sentence s = Sentence.ofTerms("A ball is IN, if it LANDS between the COATS of that END, with SCHOOL 1 at one of them, too,"
            + " and no KEEPER (BOY) of the SIDE that keeps it REACHES there.");
        for (int low = 0; low < 20; low++) {
            for (int high = low + 1; high <= 20; high++) {
                for (int school = 0; school <= 1; school++) {
                    CoatGoals x = Checks.with("g" + school + "c" + Checks.two(low) + "c" + Checks.two(high) + "c09c11p0001");
                    CoatGoals y = Checks.with("g" + school + "c09c11c" + Checks.two(low) + "c" + Checks.two(high) + "p1001");
                    for (int p = 0; p <= 20; p++) {
                        boolean isIn = p > low && p < high || school == 1 && (p == low || p == high);
                        s.answers(x, isIn ? 1 : 0, "in", 0, p);
                        s.answers(y, isIn ? 1 : 0, "in", 1, p);
                    }
                }
            }
        }
        // Just beside what is reached it is in; two keepers reach as both do.
        CoatGoals x = Checks.with("g1c05c15c05c15k0053b0143p1071p1071k1103");
        int open = Checks.range(7, 11);
        for (int p = 0; p <= 20; p++) {
            s.answers(x, open >> p & 1, "in", 0, p);
        }
        s.answers(x, Checks.bits(2, 3), "term");
        x.stand(0, 6);
        s.answers(x, 0, "term");
    }
}
