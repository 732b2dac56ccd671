/** Promises 21 to 25, sentence by sentence: lands, in, seen, lead, amend. */
final class AsideEdges {
    private static final int BAD = CoatGoals.BAD, STATE = CoatGoals.STATE, NONE = CoatGoals.NONE;
    private static final String MUDDY = Checks.MUDDY;

    private AsideEdges() {
    }

    static void run() {
        aside();
        landsFrom();
        landsBad();
        isIn();
        inRefused();
        seenBy();
        seenRefused();
        leads();
        leadRefused();
        amendSteps();
        amendUnseen();
        amendOnTheCommon();
        amendBySoMuch();
        amendRow();
        amendNone();
        amendRefused();
    }

    private static void aside() {
        Sentence s = Sentence.ofTerms("---- 3 what would be (aside)");
        CoatGoals x = Ready.deeds(MUDDY, 40).get();
        x.lands(4, 0, 0);
        x.in(1, 20);
        x.seen(3);
        Twins.alike(s, "lands, in, seen", x, Ready.deeds(MUDDY, 40).get(), 0);
        CoatGoals y = Ready.deeds(MUDDY, 40).get();
        y.lead(40);
        s.due("lead(40), digest()", y.digest(), Ready.deeds(MUDDY, 40).get().digest());
        Sentence now = Sentence.ofTerms("---- 4 amendments (aside, now)");
        CoatGoals z = Ready.deeds(MUDDY, 40).get();
        CoatGoals twin = Ready.deeds(MUDDY, 40).get();
        now.due("amend(0, 0, 0) not refused", z.amend(0, 0, 0) >= 0 ? 1 : 0, 1);
        z.tear(0);
        Twins.alike(now, "amend(0, 0, 0), its ROW torn", z, twin, 0);
    }

    private static void landsFrom() {
        Sentence s = Sentence.of(21, "Where a PLAYER's ball would LAND from a PLACE (0 .. 20), in RAIN (1) or none (0);"
            + " NONE: it does not shoot.");
        // Of players that stand at 9, 5, 10, 11, 8, 13: where from 0, from 20, dry and in rain.
        CoatGoals x = Checks.with("g0 c05c12c03c15 p0094w1057k0106h1113t0089b1139");
        int[][] due = {{0, 0, 20, 20}, {7, 7, 20, 20}, {NONE, NONE, NONE, NONE}, {0, 0, 20, 18}, {4, 9, 20, 20},
            {NONE, NONE, NONE, NONE}};
        for (int now = 0; now <= 1; now++) {
            for (int i = 0; i <= 5; i++) {
                s.answers(x, due[i][0], "lands", i, 0, 0);
                s.answers(x, due[i][1], "lands", i, 0, 1);
                s.answers(x, due[i][2], "lands", i, 20, 0);
                s.answers(x, due[i][3], "lands", i, 20, 1);
            }
            x.rain(1);
            x.stand(4, 0);
        }
    }

    private static void landsBad() {
        Sentence s = Sentence.of(21, "BAD.");
        for (int i : Sentence.outside(0, 5)) {
            s.refuses(Ready.republic(MUDDY), BAD, "lands", i, 0, 0);
        }
        for (int i = 0; i <= 5; i++) {
            for (int place : Sentence.outside(0, 20)) {
                s.refuses(Ready.republic(MUDDY), BAD, "lands", i, place, 0);
            }
            for (int rain : Sentence.outside(0, 1)) {
                s.refuses(Ready.republic(MUDDY), BAD, "lands", i, 0, rain);
            }
        }
        s.refuses(Ready.NEW, BAD, "lands", 0, 0, 0);
        s.refuses(Ready.republic("g0c00c01c19c20p0001"), BAD, "lands", 1, 0, 0);
    }

    private static void isIn() {
        Sentence s = Sentence.of(22, "Whether a ball that LANDS at a PLACE (0 .. 20) of an END (0, 1) is IN: 1, 0.");
        for (int school = 0; school <= 1; school++) {
            CoatGoals x = Checks.with("g" + school + "c00c10c10c20p0001");
            s.answers(x, school, "in", 0, 0);
            s.answers(x, 1, "in", 0, 1);
            s.answers(x, 1, "in", 0, 9);
            s.answers(x, school, "in", 0, 10);
            s.answers(x, 0, "in", 0, 11);
            s.answers(x, 0, "in", 0, 20);
            s.answers(x, 0, "in", 1, 0);
            s.answers(x, 0, "in", 1, 9);
            s.answers(x, school, "in", 1, 10);
            s.answers(x, 1, "in", 1, 11);
            s.answers(x, 1, "in", 1, 19);
            s.answers(x, school, "in", 1, 20);
        }
    }

    private static void inRefused() {
        Sentence s = Sentence.of(22, "BAD; STATE: no PLAYERS.");
        for (int end : Sentence.outside(0, 1)) {
            s.refuses(Ready.republic(MUDDY), BAD, "in", end, 7);
            s.refuses(Ready.NEW, BAD, "in", end, 7);
        }
        for (int place : Sentence.outside(0, 20)) {
            s.refuses(Ready.republic(MUDDY), BAD, "in", 0, place);
            s.refuses(Ready.republic(MUDDY), BAD, "in", 1, place);
            s.refuses(Ready.NEW, BAD, "in", 1, place);
        }
        s.refuses(Ready.NEW, STATE, "in", 0, 0);
        s.refuses(Ready.NEW, STATE, "in", 1, 20);
    }

    private static void seenBy() {
        Sentence s = Sentence.of(23, "By whom a COAT would be SEEN, NUDGED now (bits).");
        CoatGoals none = Checks.with("g0c08c12c08c12p0041p0161p1041p1161");
        CoatGoals some = Checks.with("g0c08c12c08c12p0051p0151p1051p1151");
        CoatGoals all = Checks.with("g0c08c12c08c12p0111p0091p0101w0101k0101b0101");
        for (int k = 0; k <= 3; k++) {
            s.answers(none, 0, "seen", k);
            s.answers(some, 1 << k, "seen", k);
            s.answers(all, k <= 1 ? 63 : 0, "seen", k);
        }
        // As it is now, be it that it could not be nudged at all.
        CoatGoals x = Checks.with("g0c00c01c19c20p0001p1201");
        int[] due = {1, 1, 2, 2};
        for (int k = 0; k <= 3; k++) {
            s.answers(x, due[k], "seen", k);
        }
        x.stand(0, 20);
        x.nudge(3, -1);
        x.nudge(2, -2);
        s.answers(x, 0, "seen", 0);
        s.answers(x, 2, "seen", 2);
        x.nudge(2, -1);
        s.answers(x, 0, "seen", 2);
    }

    private static void seenRefused() {
        Sentence s = Sentence.of(23, "BAD; STATE: no PLAYERS.");
        for (int k : Sentence.outside(0, 3)) {
            s.refuses(Ready.republic(MUDDY), BAD, "seen", k);
            s.refuses(Ready.NEW, BAD, "seen", k);
        }
        for (int k = 0; k <= 3; k++) {
            s.refuses(Ready.NEW, STATE, "seen", k);
        }
    }

    private static void leads() {
        Sentence s = Sentence.of(24, "How many GOALS more SIDE 0 would have than SIDE 1 behind n (0 .. 40) TERMS"
            + " (all up to then, too), told by asked(): 1.");
        CoatGoals x = Checks.with("g1c00c20c00c20p0001p0001p0001p0001p0001p0001");
        s.tells(x, 0, "lead", 0);
        s.tells(x, 6, "lead", 1);
        s.tells(x, 240, "lead", 40);
        for (int d = 0; d < 40; d++) {
            x.term();
        }
        s.tells(x, 240, "lead", 0);
        s.tells(x, 480, "lead", 40);
        CoatGoals y = Checks.with("g1c00c20c00c20p1001p1001p1001p1001p1001p1001");
        for (int d = 0; d < 40; d++) {
            y.term();
        }
        s.tells(y, -240, "lead", 0);
        s.tells(y, -480, "lead", 40);
        // GOALS up to then stay, though none would come any more.
        y.undo(38);
        y.nudge(0, 1);
        s.tells(y, -228, "lead", 40);
        s.answers(y, 39, "count", 3);
    }

    private static void leadRefused() {
        Sentence s = Sentence.of(24, "BAD; STATE: no PLAYERS.");
        for (int n : Sentence.outside(0, 40)) {
            s.refuses(Ready.republic(MUDDY), BAD, "lead", n);
            s.refuses(Ready.NEW, BAD, "lead", n);
        }
        s.refuses(Ready.NEW, STATE, "lead", 0);
        s.refuses(Ready.NEW, STATE, "lead", 40);
    }

    private static void amended(Sentence s, int steps, String text, int side, int v, int... row) {
        CoatGoals x = Checks.with(text);
        x.row(3, 40);
        s.due(text + ", amend(" + side + ", " + v + ", 3)", x.amend(side, v, 3), steps);
        if (steps != NONE) {
            for (int i = 0; i < 4; i++) {
                s.due(text + ", at(3, " + i + ")", x.at(3, i) == 1 ? x.asked() : -1000, row[i]);
            }
        }
        s.due(text + ", at(3, 4)", x.at(3, 4), steps == NONE ? 1 : CoatGoals.FINDING);
    }

    /** One ball of each side in turn, at a place, and coats at 9 and 11 where it would be. */
    private static void opened(Sentence s, int school, int place, int steps) {
        String at = Checks.two(place);
        int low = place < 10 ? -steps : 0;
        int high = place < 10 ? 0 : steps;
        amended(s, steps, "g" + school + "c00c01c09c11p0" + at + "1", 0, 1, 0, 0, low, high);
        amended(s, steps, "g" + school + "c09c11c00c01p1" + at + "1", 1, 1, low, high, 0, 0);
    }

    private static void amendSteps() {
        Sentence s = Sentence.of(25, "The fewest steps in all by which COATS are to be moved at once (each 0 to 3 off either way,");
        int[] near0 = {NONE, 3, 2, 1, 0, 1, 2, 3, NONE};
        int[] near1 = {NONE, 3, 2, 1, 0, 0, 0, 1, 2, 3, NONE};
        for (int j = 0; j < near0.length; j++) {
            opened(s, 0, 6 + j, near0[j]);
        }
        for (int j = 0; j < near1.length; j++) {
            opened(s, 1, 5 + j, near1[j]);
        }
        // All four by 3: one way alone shuts END 0, one alone opens END 1 to both balls.
        String far = "g1c09c10c09c10w0006w0049w1026w1019w1039";
        amended(s, 12, far, 0, 2, -3, -3, -3, 3);
        amended(s, NONE, far, 0, 3);
        String farOther = "g1c09c10c09c10w1006w1049w0026w0019w0039";
        amended(s, 12, farOther, 1, 2, -3, 3, -3, -3);
    }

    private static void amendUnseen() {
        Sentence s = Sentence.of(25, "those that would be SEEN as they are now not at all;");
        // COAT 3 at 11 has to go to 12, COAT 2 at 9 to 8: who stands 3 off sees it, who stands 4 off does not.
        amended(s, NONE, "g1c00c01c09c11p0121p1141", 0, 1);
        amended(s, 1, "g1c00c01c09c11p0121p1151", 0, 1, 0, 0, 0, 1);
        amended(s, NONE, "g1c00c01c09c11p0081p1061", 0, 1);
        amended(s, 1, "g1c00c01c09c11p0081p1051", 0, 1, 0, 0, -1, 0);
        // Only those who keep that END see it, and each coat by itself.
        amended(s, 1, "g1c00c01c09c11p0121k0111", 0, 1, 0, 0, 0, 1);
        amended(s, 1, "g1c00c01c09c11p0121p1061", 0, 1, 0, 0, 0, 1);
        amended(s, 1, "g1c00c01c09c11p0081p1141", 0, 1, 0, 0, -1, 0);
        amended(s, NONE, "g1c09c11c00c01p1121p0141", 1, 1);
        amended(s, 1, "g1c09c11c00c01p1121p0151", 1, 1, 0, 1, 0, 0);
        amended(s, NONE, "g1c09c11c00c01p1081p0061", 1, 1);
        amended(s, 1, "g1c09c11c00c01p1081p0051", 1, 1, -1, 0, 0, 0);
        // SEEN, but none has to be moved.
        amended(s, 0, "g1c09c11c09c11p0101p1121", 0, 1, 0, 0, 0, 0);
        // As they are now: into sight one may be moved.
        amended(s, 3, "g1c00c01c09c11p0141p1151", 0, 1, 0, 0, 0, 3);
    }

    private static void amendOnTheCommon() {
        Sentence s = Sentence.of(25, "then all are 0 .. 20, COATS 1, 3 above COATS 0, 2)");
        amended(s, NONE, "g0c00c01c00c02p0001", 0, 1);
        amended(s, NONE, "g0c00c01c18c20p0201", 0, 1);
        amended(s, NONE, "g0c00c02c00c01p1001", 1, 1);
        amended(s, NONE, "g0c18c20c00c01p1201", 1, 1);
        amended(s, 1, "g1c00c01c01c02p0001", 0, 1, 0, 0, -1, 0);
        amended(s, 3, "g1c00c01c03c05p0001", 0, 1, 0, 0, -3, 0);
        amended(s, 3, "g1c00c01c15c17p0201", 0, 1, 0, 0, 0, 3);
        amended(s, 1, "g1c18c19c00c01p1201", 1, 1, 0, 1, 0, 0);
        // To shut coats side by side against a ball at one of them, both have to go.
        amended(s, 2, "g1c09c10c00c01p1101p0201", 0, 0, -1, -1, 0, 0);
        amended(s, 2, "g1c09c10c00c01p1091p0201", 0, 0, 1, 1, 0, 0);
        amended(s, 2, "g1c00c01c09c10p0101p1201", 1, 0, 0, 0, -1, -1);
        amended(s, 2, "g1c00c01c09c10p0091p1201", 1, 0, 0, 0, 1, 1);
        // One place is between them: either of them takes it away.
        amended(s, 1, "g0c09c11c00c01p1101p0201", 0, 0, 0, -1, 0, 0);
        amended(s, 1, "g0c00c01c09c11p0101p1201", 1, 0, 0, 0, 0, -1);
    }

    private static void amendBySoMuch() {
        Sentence s = Sentence.of(25, "so that a SIDE has v (0 .. 6) GOALS more than the other one in the next TERM, or still more;");
        for (int v = 0; v <= 6; v++) {
            amended(s, 0, "g0c00c20c00c20p0101p0101p0101p0101p0101p0101", 0, v, 0, 0, 0, 0);
            amended(s, 0, "g0c00c20c00c20p1101p1101p1101p1101p1101p1101", 1, v, 0, 0, 0, 0);
            amended(s, v <= 5 ? 0 : NONE, "g0c00c20c00c20p0101p0101p0101p0101p0101p0001", 0, v, 0, 0, 0, 0);
            amended(s, v <= 4 ? 0 : NONE, "g0c00c20c00c20p0101p0101p0101p0101p0101p1101", 0, v, 0, 0, 0, 0);
            amended(s, v == 0 ? 0 : NONE, "g0c00c20c00c20p0101p0101p0101p1101p1101p1101", 1, v, 0, 0, 0, 0);
            // All six at once are let in by one step, how many of them are wanted.
            amended(s, v == 0 ? 0 : 1, "g1c00c01c09c11p0121p0121p0121p0121p0121p0121", 0, v, 0, 0, 0, v == 0 ? 0 : 1);
        }
        // A keeper of one END does not matter at the other one.
        amended(s, 0, "g1c09c11c09c11p0101p1101k0101", 0, 1, 0, 0, 0, 0);
        amended(s, 0, "g1c09c11c09c11p0101p1101k1101", 1, 1, 0, 0, 0, 0);
        // GOALS of earlier TERMS do not count.
        CoatGoals x = Checks.with("g0c00c20c00c20p0101");
        x.term();
        x.stand(0, 20);
        s.answers(x, NONE, "amend", 0, 1, 0);
        s.answers(x, 0, "amend", 1, 0, 0);
    }

    private static void amendRow() {
        Sentence s = Sentence.of(25, "how far each is moved (below 0: to less; the first row, lesser ones ahead, of like ones)"
            + " comes to a ROW (anew).");
        // COAT 0 up or COAT 3 up; COAT 1 down or COAT 3 up.
        amended(s, 1, "g1c09c11c09c11w0019w0039w1009", 0, 1, 0, 0, 0, 1);
        amended(s, 1, "g1c09c11c09c11w0019w0039w1029", 0, 1, 0, -1, 0, 0);
        // Both to less or both to more, by 3 each.
        amended(s, 6, "g1c09c10c00c01p1081p1101p1111p0201", 0, 0, -3, -3, 0, 0);
        amended(s, 6, "g1c00c01c09c10p0081p0101p0111p1201", 1, 0, 0, 0, -3, -3);
        for (int r = 0; r <= 5; r++) {
            for (int size : new int[] {-1, 0, 3, 4, 5, 40}) {
                CoatGoals x = Checks.with("g1c00c01c09c11p0121");
                if (size >= 0) {
                    x.row(r, size);
                    x.lay(r, size - 1, 9);
                }
                s.answers(x, 1, "amend", 0, 1, r);
                s.answers(x, 1, "count", 13);
                for (int i = 0; i < 4; i++) {
                    s.tells(x, i == 3 ? 1 : 0, "at", r, i);
                }
                s.answers(x, CoatGoals.FINDING, "at", r, 4);
            }
        }
    }

    private static void amendNone() {
        Sentence s = Sentence.of(25, "NONE: it can't be.");
        // NONE is no refusal, but leaves all as it was, the ROW too.
        s.refuses(Ready.then(Ready.republic("g1c00c01c09c11p0121"), x -> x.row(5, 3)), NONE, "amend", 0, 2, 5);
        s.refuses(Ready.republic("g1c00c01c09c11p0121"), NONE, "amend", 1, 1, 0);
        s.refuses(Ready.republic("g1c00c01c09c11p0151"), NONE, "amend", 0, 1, 0);
        s.refuses(Ready.republic("g1c00c01c09c11k0101"), NONE, "amend", 0, 1, 0);
        s.refuses(Ready.republic("g1c00c01c00c20p0101k1101"), NONE, "amend", 0, 1, 0);
        s.refuses(Ready.republic("g1c00c20c00c20p1101p1101"), NONE, "amend", 0, 0, 0);
        s.refuses(Ready.republic("g1c00c20c09c12w1019w1019"), NONE, "amend", 0, 0, 0);
        s.refuses(Ready.republic("g1c09c12c00c20w0019w0019"), NONE, "amend", 1, 0, 0);
        s.refuses(Ready.republic("g1c00c01c00c20p0101p0101p0101p0101p0101"), NONE, "amend", 0, 6, 0);
    }

    private static void amendRefused() {
        Sentence s = Sentence.of(25, "BAD; STATE: no PLAYERS.");
        for (int side : Sentence.outside(0, 1)) {
            s.refuses(Ready.republic(MUDDY), BAD, "amend", side, 0, 0);
            s.refuses(Ready.NEW, BAD, "amend", side, 0, 0);
        }
        for (int v : Sentence.outside(0, 6)) {
            s.refuses(Ready.republic(MUDDY), BAD, "amend", 0, v, 0);
            s.refuses(Ready.NEW, BAD, "amend", 1, v, 0);
        }
        for (int r : Sentence.outside(0, 5)) {
            s.refuses(Ready.republic(MUDDY), BAD, "amend", 0, 0, r);
            s.refuses(Ready.NEW, BAD, "amend", 1, 6, r);
        }
        s.refuses(Ready.NEW, STATE, "amend", 0, 0, 0);
        s.refuses(Ready.NEW, STATE, "amend", 1, 6, 5);
    }
}
