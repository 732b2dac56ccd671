/** The section "Terms", sentence by sentence, where it says how a republic is written. */
final class FaultEdges {
    private static final int NONE = CoatGoals.NONE;
    private static final String HEAD = "g1c05c15c05c15";
    private static final String ONE = HEAD + "w1109";
    private static final String SIX = HEAD + "p0001w1202k0093h1104t0195b1009";

    private FaultEdges() {
    }

    static void run() {
        blanks();
        school();
        coats();
        players();
        eachSign();
        seventhPlayer();
        otherThanCoats();
        twoFigures();
        twoSigns();
        endTooEarly();
    }

    private static void fault(Sentence s, int want, String text) {
        CoatGoals x = new CoatGoals();
        Checks.write(x, 1, text);
        s.due("fault of '" + text + "'", x.fault(1), want);
    }

    private static boolean startsItem(int at) {
        return at == 0 || at == 2 || at == 5 || at == 8 || at == 11 || at >= 14 && (at - 14) % 5 == 0;
    }

    private static void blanks() {
        Sentence s = Sentence.ofTerms("A REPUBLIC (without PLAYERS at first) is a TEXT:"
            + " blanks (32) ahead, between, behind as many as wanted, none within items.");
        s.answers(new CoatGoals(), 0, "count", 0);
        for (int at = 0; at <= SIX.length(); at++) {
            for (int many : new int[] {1, 2, 60 - SIX.length()}) {
                String text = SIX.substring(0, at) + " ".repeat(many) + SIX.substring(at);
                fault(s, startsItem(at) || at == SIX.length() ? NONE : at, text);
            }
        }
        StringBuilder wide = new StringBuilder();
        for (int at = 0; at < SIX.length(); at++) {
            wide.append(startsItem(at) ? " " : "").append(SIX.charAt(at));
        }
        fault(s, NONE, wide + "     ");
        fault(s, NONE, " ".repeat(60 - ONE.length()) + ONE);
        fault(s, NONE, ONE + " ".repeat(60 - ONE.length()));
        // Other signs that look like none are no blanks.
        for (char sign : new char[] {0, 9, 10, 13, 31, 33, 160}) {
            fault(s, 0, sign + ONE);
            fault(s, 2, ONE.substring(0, 2) + sign + ONE.substring(2));
            fault(s, ONE.length(), ONE + sign);
        }
    }

    private static void school() {
        Sentence s = Sentence.ofTerms("First g (103) and the SCHOOL (0, 1, one figure)");
        fault(s, NONE, "g0" + ONE.substring(2));
        fault(s, NONE, "g1" + ONE.substring(2));
        fault(s, 1, "g2" + ONE.substring(2));
        fault(s, 1, "g9" + ONE.substring(2));
        fault(s, 1, "g/" + ONE.substring(2));
        fault(s, 2, "g00" + ONE.substring(2));
        fault(s, 0, ONE.substring(2));
        fault(s, 0, "G1" + ONE.substring(2));
        for (int school = 0; school <= 1; school++) {
            s.answers(Checks.with("g" + school + ONE.substring(2)), school, "count", 1);
        }
    }

    private static void coats() {
        Sentence s = Sentence.ofTerms(", then COATS 0, 1, 2, 3: c (99) and the PLACE (two figures, 00 .. 20;"
            + " that of COAT 1 above that of COAT 0, that of COAT 3 above that of COAT 2).");
        for (int low = 0; low <= 99; low++) {
            for (int high = 0; high <= 99; high++) {
                String pair = "c" + Checks.two(low) + "c" + Checks.two(high);
                int off = low > 20 ? 1 : high > 20 || high <= low ? 4 : -1;
                fault(s, off < 0 ? NONE : 2 + off, "g0" + pair + "c00c20p0001");
                fault(s, off < 0 ? NONE : 8 + off, "g0" + "c00c20" + pair + "p0001");
            }
        }
        CoatGoals x = Checks.with("g0c00c20c19c20p0001");
        int[] places = {0, 20, 19, 20};
        for (int k = 0; k <= 3; k++) {
            s.answers(x, places[k], "count", 5 + k);
        }
        // COATS of one END have nothing to do with those of the other one.
        fault(s, NONE, "g0c19c20c00c01p0001");
    }

    private static void players() {
        Sentence s = Sentence.ofTerms("Then PLAYERS (1 to 6; 0, 1, .. as they come): a letter, the SIDE (0, 1, one figure),"
            + " the PLACE (two figures, 00 .. 20), the STRENGTH (1 .. 9, one figure).");
        fault(s, 14, HEAD);
        for (int many = 1; many <= 6; many++) {
            fault(s, NONE, SIX.substring(0, 14 + 5 * many));
        }
        CoatGoals x = Checks.with(SIX);
        int[][] facts = {{0, 0, 0, 1}, {1, 1, 20, 2}, {2, 0, 9, 3}, {3, 1, 10, 4}, {4, 0, 19, 5}, {5, 1, 0, 9}};
        for (int i = 0; i < 6; i++) {
            for (int what = 0; what <= 3; what++) {
                s.tells(x, facts[i][what], "player", i, what);
            }
        }
        for (int place = 0; place <= 99; place++) {
            fault(s, place <= 20 ? NONE : 16, HEAD + "p0" + Checks.two(place) + "1");
        }
        for (int figure = 0; figure <= 9; figure++) {
            fault(s, figure <= 1 ? NONE : 15, HEAD + "p" + figure + "001");
            fault(s, figure >= 1 ? NONE : 18, HEAD + "p000" + figure);
            fault(s, 19, HEAD + "p0001" + figure);
        }
    }

    /** At each place of a text, each of the 256 bytes: what is taken there, and where the others fail. */
    private static void eachSign() {
        Sentence s = Sentence.ofTerms("A FAULT is the first place at which it can't go on so"
            + " (a letter, a figure that is none such,");
        String figures = "0123456789";
        // Of each place of ONE what is taken; the first of two figures fails at its own place, too.
        String[] taken = {"g", "01", "c", "0", figures, "c", "1", figures, "c", "0", figures, "c", "1", figures,
            "pwkhtb", "01", "012", figures, "123456789"};
        for (int at = 0; at < ONE.length(); at++) {
            for (int b = 0; b < 256; b++) {
                boolean isBlankAhead = b == ' ' && startsItem(at);
                // A lower coat at 15 is one itself: it's the upper one that is not above it.
                boolean isLowAtHigh = b == '1' && (at == 3 || at == 9);
                if (!isBlankAhead) {
                    int fails = isLowAtHigh ? at + 3 : at;
                    fault(s, taken[at].indexOf(b) >= 0 ? NONE : fails,
                        ONE.substring(0, at) + (char) b + ONE.substring(at + 1));
                }
            }
        }
    }

    private static void seventhPlayer() {
        Sentence s = Sentence.ofTerms("a seventh PLAYER,");
        for (char letter : "pwkhtb".toCharArray()) {
            fault(s, 44, SIX + letter + "0001");
            fault(s, 44, SIX + letter);
            fault(s, 50, SIX + "      " + letter + "000");
            fault(s, 59, SIX + " ".repeat(15) + letter);
        }
        fault(s, 44, SIX + "x");
        fault(s, 44, SIX + "c01");
        fault(s, NONE, SIX + " ".repeat(16));
    }

    private static void otherThanCoats() {
        Sentence s = Sentence.ofTerms("anything but c for the first four items: its place;");
        for (int k = 0; k <= 3; k++) {
            int at = 2 + 3 * k;
            for (char sign : "gpwkhtb019CC?".toCharArray()) {
                fault(s, at, HEAD.substring(0, at) + sign + "0001");
                fault(s, at + 2, HEAD.substring(0, at) + "  " + sign + "0001");
            }
        }
        // Behind four of them a c is no PLAYER's letter.
        fault(s, 14, HEAD + "c01");
        fault(s, 19, ONE + "c01");
        fault(s, 21, ONE + "  g1");
    }

    private static void twoFigures() {
        Sentence s = Sentence.ofTerms("two figures that are not as told: the place of the first of both;");
        fault(s, 3, "g0c21c22c00c01p0001");
        fault(s, 3, "g0c99");
        fault(s, 6, "g0c20c20c00c01p0001");
        fault(s, 6, "g0c20c21c00c01p0001");
        fault(s, 6, "g0c10c09c00c01p0001");
        fault(s, 9, "g0c00c01c21c22p0001");
        fault(s, 12, "g0c00c01c20c20p0001");
        fault(s, 12, "g0c00c01c01c00p0001");
        fault(s, 16, "g0c00c01c00c01p0211");
        fault(s, 16, "g0c00c01c00c01p0300");
        fault(s, 21, "g0c00c01c00c01p0001w1991");
    }

    private static boolean isFigure(char sign) {
        return sign >= '0' && sign <= '9';
    }

    /** Any two signs where two figures are due: the first that is no figure fails, two figures at the first of both. */
    private static void twoSigns() {
        Sentence s = Sentence.ofTerms("A FAULT is the first place at which it can't go on so"
            + " (a letter, a figure that is none such,");
        String signs = "0123456789/: xgcp-\0" + (char) 127 + (char) 200;
        int[] places = {3, 6, 9, 12, 16};
        for (int at : places) {
            String ahead = ONE.substring(0, at);
            String behind = ONE.substring(at + 2);
            for (char first : signs.toCharArray()) {
                fault(s, isFigure(first) ? at + 1 : at, ahead + first);
                for (char second : signs.toCharArray()) {
                    fault(s, dueOf(at, first, second), ahead + first + second + behind);
                }
            }
        }
    }

    /** Of ONE, whose coats are at 5 and 15 at both ends. */
    private static int dueOf(int at, char first, char second) {
        if (!isFigure(first) || !isFigure(second)) {
            return isFigure(first) ? at + 1 : at;
        }
        int place = 10 * (first - '0') + second - '0';
        boolean isUpper = at == 6 || at == 12;
        if (place > 20 || isUpper && place <= 5) {
            return at;
        }
        boolean isLower = at == 3 || at == 9;
        return isLower && place >= 15 ? at + 3 : NONE;
    }

    private static void endTooEarly() {
        Sentence s = Sentence.ofTerms("the TEXT's size, if its end comes too early, or there are blanks alone).");
        for (int size = 0; size <= SIX.length(); size++) {
            boolean isWhole = size >= 19 && (size - 14) % 5 == 0;
            fault(s, isWhole ? NONE : size, SIX.substring(0, size));
        }
        for (int size = 0; size <= 60; size++) {
            fault(s, size, " ".repeat(size));
        }
        // Behind a whole item blanks may come, up to the end.
        for (int size : new int[] {2, 5, 8, 11, 14}) {
            fault(s, size + 1, SIX.substring(0, size) + " ");
            fault(s, 60, SIX.substring(0, size) + " ".repeat(60 - size));
            fault(s, 60, " ".repeat(60 - size) + SIX.substring(0, size));
        }
        for (int size : new int[] {1, 3, 4, 15, 16, 17, 18}) {
            fault(s, 60, " ".repeat(60 - size) + SIX.substring(0, size));
        }
    }
}
