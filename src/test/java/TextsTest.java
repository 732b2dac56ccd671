/** Promises 8 to 11: text, put, fault, republic. */
public final class TextsTest {
    private static final String HEAD = "g1c00c01c19c20";

    public static void main(String[] args) {
        texts();
        put();
        wholeTexts();
        faultsOfSchoolAndCoats();
        faultsOfPlayers();
        refusedFaults();
        republic();
        Checks.finish();
    }

    private static void texts() {
        CoatGoals x = new CoatGoals();
        for (int t = 0; t <= 3; t++) {
            Checks.due("text(t, 60)", x.text(t, 60), 60);
            Checks.due("put(t, 59, 32)", x.put(t, 59, 32), 1032);
        }
        Checks.due("count(14)", x.count(14), 4);
        Checks.due("text(0, 0)", x.text(0, 0), 0);
        Checks.due("text(-1, 1)", x.text(-1, 1), CoatGoals.BAD);
        Checks.due("text(4, 1)", x.text(4, 1), CoatGoals.BAD);
        Checks.due("text(1, 61)", x.text(1, 61), CoatGoals.BAD);
        Checks.due("text(4, -1)", x.text(4, -1), CoatGoals.BAD);
        Checks.finds("text(1, -1)", x, 0, x.text(1, -1), 5);
        x.put(2, 0, 7);
        x.text(2, 5);
        Checks.due("blanks anew", x.put(2, 0, 7), 1032);
    }

    private static void put() {
        CoatGoals x = new CoatGoals();
        x.text(0, 2);
        Checks.due("put(0, 1, 255)", x.put(0, 1, 255), 1032);
        Checks.due("255 is -1 as a byte", x.put(0, 1, 128), 999);
        Checks.due("128 is -128 as a byte", x.put(0, 1, 127), 872);
        Checks.due("127 stays", x.put(0, 1, 256 + 65), 1127);
        Checks.due("321 is 65 as a byte", x.put(0, 1, -129), 1065);
        Checks.due("-129 is 127 as a byte", x.put(0, 1, 0), 1127);
        long digest = x.digest();
        Checks.due("put(-1, 0, 1)", x.put(-1, 0, 1), CoatGoals.BAD);
        Checks.due("put(4, 0, 1)", x.put(4, 0, 1), CoatGoals.BAD);
        Checks.finds("put(1, 9, 1)", x, 0, x.put(1, 9, 1), 1);
        Checks.finds("put(0, 2, 1)", x, 0, x.put(0, 2, 1), 2);
        Checks.finds("put(0, -1, 1)", x, 1, x.put(0, -1, 1), 2);
        Checks.due("refused, digest()", x.digest(), digest);
        Checks.due("put leaves asked()", x.asked(), 0);
    }

    private static void fault(String text, int want) {
        CoatGoals x = new CoatGoals();
        Checks.write(x, 1, text);
        Checks.due("fault of '" + text + "'", x.fault(1), want);
    }

    private static void wholeTexts() {
        fault(HEAD + "p0001", CoatGoals.NONE);
        fault("   g0   c05 c12  c03c15   w1209   b0009  ", CoatGoals.NONE);
        fault(HEAD + "p0001w0001k0001h0001t0001b0001", CoatGoals.NONE);
        fault(Checks.MUDDY, CoatGoals.NONE);
    }

    private static void faultsOfSchoolAndCoats() {
        fault("", 0);
        fault("    ", 4);
        fault("G0", 0);
        fault("  c05", 2);
        fault("g", 1);
        fault("g2", 1);
        fault("g 0", 1);
        fault("g0", 2);
        fault("g0  ", 4);
        fault("g0p0001", 2);
        fault("g00", 2);
        fault("g0c", 3);
        fault("g0c1", 4);
        fault("g0cx1", 3);
        fault("g0c1x", 4);
        fault("g0c 1", 3);
        fault("g0c21", 3);
        fault("g0c99", 3);
        fault("g0c05c05", 6);
        fault("g0c05c04", 6);
        fault("g0c05c06c20c20", 12);
        fault("g0c05c06c00c01", 14);
        fault("g0c20c20", 6);
        fault("g0c05 c06 p0001", 10);
        fault("g0c05c06c00x01", 11);
        fault("g0c05c06c00c01c02", 14);
    }

    private static void faultsOfPlayers() {
        fault(HEAD + "   ", 17);
        fault(HEAD + "P0001", 14);
        fault(HEAD + "p", 15);
        fault(HEAD + "p2001", 15);
        fault(HEAD + "p 001", 15);
        fault(HEAD + "p0", 16);
        fault(HEAD + "p021", 16);
        fault(HEAD + "p02", 17);
        fault(HEAD + "p0z01", 16);
        fault(HEAD + "p00z1", 17);
        fault(HEAD + "p020", 18);
        fault(HEAD + "p0000", 18);
        fault(HEAD + "p000a", 18);
        fault(HEAD + "p00012", 19);
        fault(HEAD + "p0001  c01", 21);
        fault(HEAD + "p0001w0001k0001h0001t0001b0001  p0001", 46);
        fault(HEAD + "p0001w0001k0001h0001t0001b0001x", 44);
        CoatGoals x = new CoatGoals();
        Checks.write(x, 0, HEAD + "p0001");
        x.put(0, 18, 49 + 128);
        Checks.due("a byte below 0 is no figure", x.fault(0), 18);
        x.put(0, 18, 49 + 256);
        Checks.due("cut to a byte it is one", x.fault(0), CoatGoals.NONE);
        fullTexts();
    }

    /** Texts of 60 bytes, whose end comes too early at each kind of item. */
    private static void fullTexts() {
        String blanks = " ".repeat(60);
        String[] endings = {"", "g", "g0", "g0c", "g0c1", HEAD, HEAD + "p", HEAD + "p0", HEAD + "p01", HEAD + "p010"};
        for (String ending : endings) {
            fault(blanks.substring(ending.length()) + ending, 60);
        }
        fault(blanks.substring(HEAD.length() + 5) + HEAD + "p0101", CoatGoals.NONE);
    }

    private static void refusedFaults() {
        CoatGoals x = new CoatGoals();
        Checks.due("fault(-1)", x.fault(-1), CoatGoals.BAD);
        Checks.due("fault(4)", x.fault(4), CoatGoals.BAD);
        Checks.finds("fault(2)", x, 0, x.fault(2), 1);
    }

    private static void republic() {
        CoatGoals x = Checks.with(Checks.MUDDY);
        Checks.due("PLAYERS", x.count(0), 6);
        x.term();
        x.rain(1);
        x.keep(2);
        x.keep(0);
        long digest = x.digest();
        Checks.due("republic(-1)", x.republic(-1), CoatGoals.BAD);
        Checks.due("republic(4)", x.republic(4), CoatGoals.BAD);
        Checks.finds("republic(0)", x, 0, x.republic(0), 1);
        Checks.due("refused, digest()", x.digest(), digest);
        Checks.write(x, 0, "g1c00c01c19c20p0001w0001k0001h0001t0001b000");
        digest = x.digest();
        Checks.due("fault(0)", x.fault(0), 43);
        Checks.due("republic(0) by a FAULT", x.republic(0), CoatGoals.STATE);
        Checks.due("finding() stays", x.finding(), 1);
        Checks.due("by a FAULT, digest()", x.digest(), digest);
        Checks.write(x, 0, "g1 c00c01c19c20 w1209");
        Checks.due("republic(0)", x.republic(0), 1);
        int[] counts = {1, 1, 0, 0, 0, 0, 1, 19, 20, 0, 0, 1, 0, 0, 2, 0};
        for (int what = 0; what <= 15; what++) {
            Checks.due("anew, count(" + what + ")", x.count(what), counts[what]);
        }
        Checks.finds("kept ones go, on(2)", x, 1, x.on(2), 1);
        Checks.finds("kept ones go, on(0)", x, 2, x.on(0), 1);
        x.put(0, 1, '0');
        Checks.due("a text put to later changes nothing", x.count(1), 1);
    }
}
