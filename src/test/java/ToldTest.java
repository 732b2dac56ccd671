/** Promises 37 to 43: asked, upper, lower, count, finding, findings, digest. */
public final class ToldTest {
    public static void main(String[] args) {
        asked();
        fractions();
        counts();
        findings();
        emptyDigest();
        digest();
        Checks.finish();
    }

    private static void asked() {
        CoatGoals x = Checks.with(Checks.MUDDY);
        Checks.due("asked() ahead of all", x.asked(), 0);
        Checks.row(x, 0, 7, 1);
        Checks.due("lay tells", x.asked(), 0);
        x.at(0, 0);
        Checks.due("at tells", x.asked(), 7);
        x.mean(0);
        Checks.due("mean tells", x.asked(), 4);
        x.player(0, 2);
        Checks.due("player tells", x.asked(), 9);
        x.term();
        x.nudge(0, 1);
        x.undo(0);
        x.mark(1, 1);
        x.seen(0);
        x.in(0, 7);
        x.odds(0, 5);
        x.mid(5);
        x.stood(0, 0);
        x.kinds(0, 0);
        x.amend(0, 0, 1);
        x.lands(0, 0, 0);
        x.count(0);
        x.digest();
        Checks.due("others do not tell by asked()", x.asked(), 9);
        x.lead(2);
        Checks.due("lead tells", x.asked(), 2);
        x.sets(30);
        Checks.due("sets tells", x.asked(), 63);
        x.duel(0);
        Checks.due("duel tells", x.asked(), 1);
    }

    private static void fractions() {
        CoatGoals x = Checks.with(Checks.MUDDY);
        x.mid(5);
        Checks.due("upper()", x.upper(), 7);
        Checks.due("lower()", x.lower(), 12);
        Checks.row(x, 0, 7, 1);
        x.sure(0, 0);
        x.next(0, 0);
        x.surely(30);
        x.lead(5);
        Checks.due("others leave upper()", x.upper(), 7);
        Checks.due("others leave lower()", x.lower(), 12);
        x.sets(4);
        Checks.due("sets, upper()", x.upper(), 2);
        Checks.due("sets, lower()", x.lower(), 1);
    }

    private static void counts() {
        CoatGoals x = Checks.with("g1 c04c12c03c15 w0041w1051t0061k1201b1202h0011");
        Checks.due("WINGERS and CAPTAINS", x.count(11), 3);
        Checks.due("KEEPERS and BOYS", x.count(12), 2);
        x.keep(0);
        x.keep(2);
        Checks.due("kept REPUBLICS", x.count(15), 2);
        x.row(1, 0);
        x.row(5, 3);
        x.tear(1);
        Checks.due("ROWS", x.count(13), 1);
        x.text(0, 0);
        Checks.due("TEXTS", x.count(14), 2);
        Checks.due("count(-1)", x.count(-1), CoatGoals.BAD);
        Checks.due("count(16)", x.count(16), CoatGoals.BAD);
    }

    private static void findings() {
        CoatGoals x = new CoatGoals();
        x.row(0, -1);
        x.row(0, 2);
        x.at(0, 2);
        x.at(0, 3);
        x.at(1, 0);
        x.row(2, 0);
        x.mean(2);
        int[] due = {1, 2, 0, 1, 1};
        for (int f = 1; f <= 5; f++) {
            Checks.due("findings(" + f + ")", x.findings(f), due[f - 1]);
        }
        Checks.due("finding()", x.finding(), 4);
        x.row(9, 9);
        x.term();
        x.at(0, 0);
        Checks.due("finding() stays", x.finding(), 4);
        Checks.due("findings(0)", x.findings(0), CoatGoals.BAD);
        Checks.due("findings(6)", x.findings(6), CoatGoals.BAD);
        Checks.due("findings(-1)", x.findings(-1), CoatGoals.BAD);
    }

    private static long fold(long h, int... values) {
        for (int v : values) {
            h = 31 * h + v;
        }
        return h;
    }

    private static void emptyDigest() {
        long h = fold(17L, new int[16]);
        h = fold(h, -1, -1, -1);
        h = fold(h, -1, -1, -1, -1, -1, -1);
        h = fold(h, -1, -1, -1, -1);
        Checks.due("digest() of a new object", new CoatGoals().digest(), h);
    }

    private static void digest() {
        CoatGoals x = new CoatGoals();
        String text = "g1c04c12c03c15w0041b1202";
        Checks.write(x, 2, text);
        x.text(0, 1);
        x.put(0, 0, 200);
        x.republic(2);
        x.term();
        x.rain(1);
        x.keep(1);
        x.nudge(2, -1);
        Checks.row(x, 0, 5, -6);
        x.row(4, 0);
        // The winger's ball lands at 5, between 3 and 15; the boy reaches 1 from 20.
        long h = fold(17L, 2, 1, 1, 3, 1, 4, 12, 2, 15, 1, 0, 1, 1, 2, 2, 1);
        h = fold(h, 1, 0, 4, 1, 5, 1, CoatGoals.NONE);
        h = fold(h, 5, 1, 20, 2, CoatGoals.NONE, 0, 1);
        h = fold(h, -1, 2, -1);
        h = fold(h, 2, 5, -6, -1, -1, -1, 0, -1);
        h = fold(h, 1, (byte) 200, -1, text.length());
        for (int i = 0; i < text.length(); i++) {
            h = fold(h, text.charAt(i));
        }
        h = fold(h, -1);
        Checks.due("digest()", x.digest(), h);
        int[] counts = {2, 1, 1, 3, 1, 4, 12, 2, 15, 1, 0, 1, 1, 2, 2, 1};
        for (int what = 0; what <= 15; what++) {
            Checks.due("count(" + what + ")", x.count(what), counts[what]);
        }
        Checks.due("count(-1)", x.count(-1), CoatGoals.BAD);
        Checks.due("count(16)", x.count(16), CoatGoals.BAD);
    }
}
