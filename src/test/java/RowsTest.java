/** Promises 1 to 7: a new object, row, lay, at, tear, copy, mean. */
public final class RowsTest {
    public static void main(String[] args) {
        newObject();
        rows();
        layAndAt();
        tear();
        copy();
        mean();
        Checks.finish();
    }

    private static void newObject() {
        CoatGoals x = new CoatGoals();
        for (int what = 0; what <= 15; what++) {
            Checks.due("new, count(" + what + ")", x.count(what), 0);
        }
        Checks.due("new, asked()", x.asked(), 0);
        Checks.due("new, upper()", x.upper(), 0);
        Checks.due("new, lower()", x.lower(), 1);
        Checks.due("new, finding()", x.finding(), 0);
        for (int f = 1; f <= 5; f++) {
            Checks.due("new, findings(" + f + ")", x.findings(f), 0);
        }
        for (int r = 0; r <= 5; r++) {
            Checks.finds("new, at(" + r + ", 0)", x, r, x.at(r, 0), 1);
        }
        for (int t = 0; t <= 3; t++) {
            Checks.finds("new, fault(" + t + ")", x, 6 + t, x.fault(t), 1);
        }
        Checks.due("new, player(0, 0)", x.player(0, 0), CoatGoals.BAD);
    }

    private static void rows() {
        CoatGoals x = new CoatGoals();
        for (int r = 0; r <= 5; r++) {
            Checks.due("row(r, 40)", x.row(r, 40), 40);
        }
        Checks.due("count(13)", x.count(13), 6);
        Checks.due("row(0, 0)", x.row(0, 0), 0);
        Checks.finds("at(0, 0) of an empty row", x, 0, x.at(0, 0), 2);
        Checks.due("row(-1, 1)", x.row(-1, 1), CoatGoals.BAD);
        Checks.due("row(6, 1)", x.row(6, 1), CoatGoals.BAD);
        Checks.due("row(0, 41)", x.row(0, 41), CoatGoals.BAD);
        Checks.due("row(0, most)", x.row(0, Integer.MAX_VALUE), CoatGoals.BAD);
        Checks.due("row(6, -1)", x.row(6, -1), CoatGoals.BAD);
        Checks.finds("row(1, -1)", x, 0, x.row(1, -1), 5);
        Checks.finds("row(1, least)", x, 1, x.row(1, Integer.MIN_VALUE), 5);
        Checks.due("row(1, -1) leaves it", x.at(1, 39), 1);
        Checks.row(x, 2, 7, 8, 9);
        Checks.due("row(2, 3) anew", x.row(2, 3), 3);
        Checks.rowIs("anew", x, 2, 0, 0, 0);
    }

    private static void layAndAt() {
        CoatGoals x = new CoatGoals();
        x.row(4, 3);
        Checks.told("lay(4, 2, 11)", x, x.lay(4, 2, 11), 0);
        Checks.told("lay(4, 2, -5)", x, x.lay(4, 2, -5), 11);
        Checks.told("at(4, 2)", x, x.at(4, 2), -5);
        Checks.told("lay(4, 0, least)", x, x.lay(4, 0, Integer.MIN_VALUE), 0);
        Checks.told("at(4, 0)", x, x.at(4, 0), Integer.MIN_VALUE);
        Checks.told("at(4, 1)", x, x.at(4, 1), 0);
        long digest = x.digest();
        Checks.due("lay(-1, 0, 1)", x.lay(-1, 0, 1), CoatGoals.BAD);
        Checks.due("lay(6, 0, 1)", x.lay(6, 0, 1), CoatGoals.BAD);
        Checks.due("at(-1, 0)", x.at(-1, 0), CoatGoals.BAD);
        Checks.due("at(6, 0)", x.at(6, 0), CoatGoals.BAD);
        Checks.finds("lay(3, -1, 1)", x, 0, x.lay(3, -1, 1), 1);
        Checks.finds("at(3, 0)", x, 1, x.at(3, 0), 1);
        Checks.finds("lay(4, 3, 1)", x, 0, x.lay(4, 3, 1), 2);
        Checks.finds("lay(4, -1, 1)", x, 1, x.lay(4, -1, 1), 2);
        Checks.finds("at(4, 3)", x, 2, x.at(4, 3), 2);
        Checks.finds("at(4, -1)", x, 3, x.at(4, -1), 2);
        Checks.due("refused, digest()", x.digest(), digest);
        Checks.due("refused, asked()", x.asked(), 0);
    }

    private static void tear() {
        CoatGoals x = new CoatGoals();
        x.row(5, 2);
        Checks.due("tear(5)", x.tear(5), 1);
        Checks.due("count(13)", x.count(13), 0);
        Checks.finds("tear(5) again", x, 0, x.tear(5), 1);
        Checks.finds("at(5, 0)", x, 1, x.at(5, 0), 1);
        Checks.due("tear(-1)", x.tear(-1), CoatGoals.BAD);
        Checks.due("tear(6)", x.tear(6), CoatGoals.BAD);
        x.row(5, 1);
        Checks.rowIs("row(5, 1)", x, 5, 0);
        Checks.told("lay(5, 0, 8)", x, x.lay(5, 0, 8), 0);
        Checks.rowIs("lay(5, 0, 8)", x, 5, 8);
    }

    private static void copy() {
        CoatGoals x = new CoatGoals();
        Checks.row(x, 0, 1, 2, 3, 4, 5);
        Checks.row(x, 1, 9, 9, 9);
        Checks.due("copy(0, 3, 1, 1, 2)", x.copy(0, 3, 1, 1, 2), 1);
        Checks.rowIs("copy(0, 3, 1, 1, 2)", x, 1, 9, 4, 5);
        Checks.due("copy(0, 0, 0, 1, 4)", x.copy(0, 0, 0, 1, 4), 1);
        Checks.rowIs("to itself, on", x, 0, 1, 1, 2, 3, 4);
        Checks.due("copy(0, 1, 0, 0, 4)", x.copy(0, 1, 0, 0, 4), 1);
        Checks.rowIs("to itself, back", x, 0, 1, 2, 3, 4, 4);
        Checks.due("copy(0, 5, 1, 3, 0)", x.copy(0, 5, 1, 3, 0), 1);
        Checks.row(x, 5, 6, 7);
        Checks.due("copy(5, 0, 5, 1, 1)", x.copy(5, 0, 5, 1, 1), 1);
        Checks.rowIs("of the last row", x, 5, 6, 6);
        refusedCopies(x);
    }

    private static void refusedCopies(CoatGoals x) {
        long digest = x.digest();
        int beyond = x.findings(2);
        Checks.due("copy(-1, ..)", x.copy(-1, 0, 1, 0, -1), CoatGoals.BAD);
        Checks.due("copy(6, ..)", x.copy(6, 0, 1, 0, 1), CoatGoals.BAD);
        Checks.due("copy(.., -1, ..)", x.copy(0, 0, -1, 0, 1), CoatGoals.BAD);
        Checks.due("copy(.., 6, ..)", x.copy(0, 0, 6, 0, 1), CoatGoals.BAD);
        Checks.finds("SIZE ahead of NOTHING", x, 0, x.copy(2, 0, 1, 0, -1), 5);
        Checks.finds("NOTHING from", x, 0, x.copy(2, 99, 1, 0, 1), 1);
        Checks.finds("NOTHING to", x, 1, x.copy(0, 0, 3, 99, 1), 1);
        Checks.finds("from too far", x, beyond, x.copy(0, 4, 1, 0, 2), 2);
        Checks.finds("to too far", x, beyond + 1, x.copy(0, 0, 1, 2, 2), 2);
        Checks.finds("from ahead", x, beyond + 2, x.copy(0, -1, 1, 0, 1), 2);
        Checks.finds("to ahead", x, beyond + 3, x.copy(0, 0, 1, -1, 0), 2);
        Checks.finds("none from behind", x, beyond + 4, x.copy(0, 6, 1, 0, 0), 2);
        int most = Integer.MAX_VALUE;
        Checks.finds("most of all", x, beyond + 5, x.copy(0, most, 1, most, most), 2);
        Checks.finds("most from 1", x, beyond + 6, x.copy(0, 1, 1, 1, most), 2);
        Checks.due("refused, digest()", x.digest(), digest);
    }

    private static void mean() {
        CoatGoals x = new CoatGoals();
        Checks.row(x, 0, 5, 6, 6);
        Checks.told("mean of 17 by 3", x, x.mean(0), 5);
        Checks.row(x, 0, -5, -6, -6);
        Checks.told("mean of -17 by 3", x, x.mean(0), -5);
        Checks.row(x, 0, Integer.MAX_VALUE, Integer.MAX_VALUE, Integer.MAX_VALUE);
        Checks.told("mean of the greatest", x, x.mean(0), Integer.MAX_VALUE);
        Checks.row(x, 0, Integer.MIN_VALUE, Integer.MIN_VALUE);
        Checks.told("mean of the least", x, x.mean(0), Integer.MIN_VALUE);
        Checks.row(x, 5, new int[40]);
        x.lay(5, 39, 80);
        Checks.told("mean of forty", x, x.mean(5), 2);
        x.mean(0);
        x.row(1, 0);
        Checks.finds("mean of none", x, 0, x.mean(1), 4);
        Checks.finds("mean(2)", x, 0, x.mean(2), 1);
        Checks.due("mean(-1)", x.mean(-1), CoatGoals.BAD);
        Checks.due("mean(6)", x.mean(6), CoatGoals.BAD);
        Checks.due("refused, asked()", x.asked(), Integer.MIN_VALUE);
    }
}
