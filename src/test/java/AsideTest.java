/** Promises 21 to 25: lands, in, seen, lead, amend. */
public final class AsideTest {
    public static void main(String[] args) {
        lands();
        in();
        seen();
        lead();
        amend();
        amendAsFarAsCanBe();
        amendOfLikeOnes();
        refusedAmend();
        withoutPlayers();
        Checks.finish();
    }

    private static void lands() {
        CoatGoals x = Checks.with("g0 c05c12c03c15 p0094w1057k0106h1113t0089b1139");
        int[][] due = {
            {0, 0, 0, 0}, {0, 20, 1, 20}, {1, 0, 0, 7}, {1, 14, 1, 20}, {1, 13, 1, 20}, {1, 12, 0, 19},
            {2, 5, 0, -9}, {3, 5, 0, 5}, {3, 5, 1, 3}, {3, 1, 1, 0}, {3, 2, 1, 0}, {3, 20, 1, 18},
            {4, 5, 0, 9}, {4, 5, 1, 14}, {4, 17, 0, 20}, {4, 16, 0, 20}, {4, 15, 0, 19}, {5, 5, 1, -9},
            {-1, 5, 0, -1}, {6, 5, 0, -1}, {0, -1, 0, -1}, {0, 21, 0, -1}, {0, 5, -1, -1}, {0, 5, 2, -1},
            {2, 21, 0, -1}};
        long digest = x.digest();
        for (int[] d : due) {
            Checks.due("lands(" + d[0] + ", " + d[1] + ", " + d[2] + ")", x.lands(d[0], d[1], d[2]), d[3]);
        }
        Checks.due("aside, digest()", x.digest(), digest);
    }

    private static void in() {
        CoatGoals x = Checks.with(Checks.MUDDY);
        CoatGoals other = Checks.with(Checks.MUDDY.replace("g0", "g1"));
        int[] school0 = {Checks.bits(6, 7), Checks.range(4, 8)};
        int[] school1 = {Checks.range(5, 7), Checks.range(3, 8)};
        for (int end = 0; end <= 1; end++) {
            for (int p = 0; p <= 20; p++) {
                Checks.due("g0 in(" + end + ", " + p + ")", x.in(end, p), (school0[end] >> p) & 1);
                Checks.due("g1 in(" + end + ", " + p + ")", other.in(end, p), (school1[end] >> p) & 1);
            }
        }
        int[][] bad = {{-1, 5}, {2, 5}, {0, -1}, {0, 21}};
        for (int[] b : bad) {
            Checks.due("in(" + b[0] + ", " + b[1] + ")", x.in(b[0], b[1]), CoatGoals.BAD);
        }
    }

    private static void seen() {
        CoatGoals x = Checks.with(Checks.MUDDY);
        int[] due = {Checks.bits(4), Checks.bits(0, 2), Checks.bits(1), Checks.bits(5)};
        for (int k = 0; k <= 3; k++) {
            Checks.due("seen(" + k + ")", x.seen(k), due[k]);
        }
        Checks.due("seen(-1)", x.seen(-1), CoatGoals.BAD);
        Checks.due("seen(4)", x.seen(4), CoatGoals.BAD);
        Checks.due("nothing done", x.count(3), 0);
    }

    private static void lead() {
        CoatGoals x = Checks.with("g0 c05c12c03c15 p0041p1061p1071p1201");
        Checks.told("lead(0)", x, x.lead(0), 0);
        Checks.told("lead(1)", x, x.lead(1), -1);
        Checks.told("lead(40)", x, x.lead(40), -40);
        x.term();
        x.stand(0, 20);
        Checks.told("lead(0) behind a term", x, x.lead(0), -1);
        Checks.told("lead(3)", x, x.lead(3), -7);
        Checks.due("lead(41)", x.lead(41), CoatGoals.BAD);
        Checks.due("lead(-1)", x.lead(-1), CoatGoals.BAD);
        Checks.due("refused, asked()", x.asked(), -7);
        Checks.due("nothing done", x.count(2), 1);
        CoatGoals inside = Checks.with("g0 c00c01c05c08 p0071");
        Checks.told("a ball just inside", inside, inside.lead(2), 2);
    }

    private static void amend() {
        // None near a coat: all four may be moved.
        CoatGoals x = Checks.with("g0 c05c08c05c08 p0101p1121");
        Checks.due("as it is", x.amend(0, 0, 2), 0);
        Checks.rowIs("as it is", x, 2, 0, 0, 0, 0);
        Checks.due("COAT 3 beyond 10", x.amend(0, 1, 2), 3);
        Checks.rowIs("COAT 3 beyond 10", x, 2, 0, 0, 0, 3);
        long digest = x.digest();
        Checks.due("SIDE 1's ball at 12 is too far", x.amend(1, 1, 2), CoatGoals.NONE);
        Checks.due("two GOALS with one ball", x.amend(0, 2, 5), CoatGoals.NONE);
        Checks.due("NONE changes no ROW", x.digest(), digest);
        // SIDE 1's player near COAT 3 sees it.
        CoatGoals watched = Checks.with("g0 c05c08c05c08 p0101p1111");
        Checks.due("watched", watched.amend(0, 1, 0), CoatGoals.NONE);
        watched.stand(1, 12);
        Checks.due("no more", watched.amend(0, 1, 0), 3);
        // Only those who keep the end see its coats.
        CoatGoals own = Checks.with("g0 c05c08c05c08 p0091");
        Checks.due("by SIDE 0 it is not SEEN", own.amend(0, 1, 0), 2);
        Checks.due("count(13)", own.count(13), 1);
        own.stand(0, 11);
        Checks.due("4 off is too far", own.amend(0, 1, 0), CoatGoals.NONE);
        // No coat goes off the common, though a ball at its edge would be in then.
        CoatGoals low = Checks.with("g0 c00c09c10c11 p1001");
        Checks.due("not below 0", low.amend(1, 1, 0), CoatGoals.NONE);
        CoatGoals high = Checks.with("g0 c00c01c10c20 p0201");
        Checks.due("not above 20", high.amend(0, 1, 0), CoatGoals.NONE);
        Checks.due("five of six, as it is", Checks.with("g0 c00c01c10c20 p0151p0151p0151p0151p0151k0151").amend(0, 5, 0), 0);
        Checks.due("six, as it is", Checks.with("g0 c00c01c10c20 p0151p0151p0151p0151p0151p0151").amend(0, 6, 0), 0);
    }

    private static void amendAsFarAsCanBe() {
        // Balls at 8 to 12 leave just one way to shut an end whose coats are at 9 and 10.
        CoatGoals x = Checks.with("g1 c09c10c00c01 p1081p1091p1101p1111p1121");
        Checks.due("both coats of END 0 by 3", x.amend(0, 0, 1), 6);
        Checks.rowIs("both coats of END 0 by 3", x, 1, -3, -3, 0, 0);
        CoatGoals other = Checks.with("g1 c00c01c09c10 p0081p0091p0101p0111p0121");
        Checks.due("both coats of END 1 by 3", other.amend(1, 0, 1), 6);
        Checks.rowIs("both coats of END 1 by 3", other, 1, 0, 0, -3, -3);
        CoatGoals up = Checks.with("g1 c09c10c00c01 p1071p1081p1091p1101p1111");
        Checks.due("and to more", up.amend(0, 0, 1), 6);
        Checks.rowIs("and to more", up, 1, 3, 3, 0, 0);
        // A keeper at END 0 matters there alone.
        CoatGoals kept = Checks.with("g0 c05c09c05c09 p0071p1071k0071");
        Checks.due("kept at END 0", kept.amend(0, 1, 1), 0);
    }

    private static void amendOfLikeOnes() {
        // SIDE 1's ball at 10 is in at END 0 (9 to 11); either coat may be moved by 1 so that it is out.
        CoatGoals x = Checks.with("g0 c09c11c00c01 p1101p0201");
        Checks.due("shut by COAT 0 or 1", x.amend(0, 0, 3), 1);
        Checks.rowIs("lesser ones ahead", x, 3, 0, -1, 0, 0);
        CoatGoals wide = Checks.with("g1 c04c16c00c01 p1101p0201");
        Checks.due("too far from both coats", wide.amend(0, 0, 3), CoatGoals.NONE);
        // COAT 1 is seen, so it's COAT 0 that goes up.
        CoatGoals seen = Checks.with("g0 c07c11c00c01 p1081p0141");
        Checks.due("COAT 0 to 8", seen.amend(0, 0, 3), 1);
        Checks.rowIs("COAT 0 to 8", seen, 3, 1, 0, 0, 0);
        // At the edge: COAT 3 at 20 can't go on, COAT 2 below COAT 3.
        CoatGoals edge = Checks.with("g1 c00c01c19c20 p0181p1101");
        Checks.due("COAT 2 to 18", edge.amend(0, 1, 4), 1);
        Checks.rowIs("COAT 2 to 18", edge, 4, 0, 0, -1, 0);
        Checks.due("as it is", edge.amend(1, 0, 4), 0);
        Checks.rowIs("as it is", edge, 4, 0, 0, 0, 0);
        // Coats of both ends at once.
        CoatGoals both = Checks.with("g1 c05c06c12c13 p0101p1061p1061");
        Checks.due("END 0 shut", both.amend(0, 0, 1), 2);
        Checks.rowIs("END 0 shut", both, 1, -1, -1, 0, 0);
        Checks.due("END 1 opened, END 0 shut", both.amend(0, 1, 1), 4);
        Checks.rowIs("END 1 opened, END 0 shut", both, 1, -1, -1, -2, 0);
        Checks.due("two as it is", both.amend(1, 2, 1), 0);
        Checks.due("three never", both.amend(1, 3, 1), CoatGoals.NONE);
    }

    private static void refusedAmend() {
        CoatGoals x = Checks.with(Checks.MUDDY);
        Checks.row(x, 1, 7, 7, 7, 7, 7);
        long digest = x.digest();
        int[][] bad = {{-1, 0, 1}, {2, 0, 1}, {0, -1, 1}, {0, 7, 1}, {0, 0, -1}, {0, 0, 6}};
        for (int[] b : bad) {
            Checks.due("amend(" + b[0] + ", " + b[1] + ", " + b[2] + ")", x.amend(b[0], b[1], b[2]), CoatGoals.BAD);
        }
        Checks.due("refused, digest()", x.digest(), digest);
        Checks.due("amend(0, 1, 1)", x.amend(0, 1, 1), 0);
        Checks.rowIs("the ROW anew", x, 1, 0, 0, 0, 0);
        Checks.due("nothing done", x.count(3), 0);
    }

    private static void withoutPlayers() {
        CoatGoals x = new CoatGoals();
        Checks.due("lands(0, 1, 0)", x.lands(0, 1, 0), CoatGoals.BAD);
        Checks.due("in(0, 1)", x.in(0, 1), CoatGoals.STATE);
        Checks.due("in(2, 1)", x.in(2, 1), CoatGoals.BAD);
        Checks.due("seen(0)", x.seen(0), CoatGoals.STATE);
        Checks.due("seen(4)", x.seen(4), CoatGoals.BAD);
        Checks.due("lead(0)", x.lead(0), CoatGoals.STATE);
        Checks.due("lead(41)", x.lead(41), CoatGoals.BAD);
        Checks.due("amend(0, 0, 0)", x.amend(0, 0, 0), CoatGoals.STATE);
        Checks.due("amend(0, 7, 0)", x.amend(0, 7, 0), CoatGoals.BAD);
        Checks.due("no ROW made", x.count(13), 0);
    }
}
