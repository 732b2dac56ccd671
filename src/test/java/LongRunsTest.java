/**
 * Runs as long as the document allows: for each promise one in which an object is used for many calls of all sorts,
 * is then given Checks.MUDDY anew, and shows that promise by its last calls, the 512th of them the very last.
 */
public final class LongRunsTest {
    private static final int CALLS = 512;
    private static final int ROWS = 6;

    /** For each promise from 2 on: calls, each with its numbers and the answer that is due, worked out by hand. */
    private static final String[] ENDS = {
        "2: row 4 40 = 40, at 4 39 = 1, asked = 0, row 4 41 = -1, row 4 -1 = -3, finding = 5, at 4 40 = -3, finding = 2",
        "3: row 1 2 = 2, lay 1 1 -7 = 1, lay 1 1 8 = 1, asked = -7, lay 1 2 0 = -3, finding = 2, lay 2 0 0 = -3, finding = 1",
        "4: row 1 2 = 2, lay 1 0 2147483647 = 1, at 6 0 = -1, at 1 0 = 1, asked = 2147483647",
        "5: row 2 5 = 5, tear 2 = 1, count 13 = 0, tear 6 = -1, tear 2 = -3, finding = 1",
        "6: row 0 4 = 4, lay 0 0 1 = 1, lay 0 1 2 = 1, copy 0 0 0 1 3 = 1, copy 0 0 0 1 4 = -3, finding = 2, at 0 2 = 1, asked = 2",
        "7: row 3 2 = 2, lay 3 0 -7 = 1, mean 4 = -3, mean 3 = 1, asked = -3",
        "8: text 1 61 = -1, text 1 60 = 60, put 1 59 5 = 1032, fault 1 = 59",
        "9: text 2 1 = 1, put 2 1 0 = -3, put 2 0 200 = 1032, put 2 0 0 = 944",
        "10: put 0 3 100 = 1099, fault 0 = 3, put 0 3 99 = 1100, fault 0 = -9",
        "11: term = 16, keep 0 = 1, text 1 0 = 0, republic 1 = -4, count 9 = 1, republic 0 = 6, count 9 = 0, count 3 = 0, count 15 = 0",
        "12: player 6 0 = -1, player 5 6 = 1, asked = 4, player 1 4 = 1, asked = 12",
        "13: mark 1 1 = 7, mark 3 3 = 1, mark 4 4 = 1, mark 5 5 = 1, mark 0 3 = -3, finding = 3, mark 5 0 = -1, mark 5 2 = 9",
        "14: count 2 = 0, term = 16, count 9 = 1, count 10 = 0, count 2 = 1",
        "15: nudge 0 4 = -1, nudge 2 -3 = 2, nudge 2 -1 = -4, nudge 0 3 = 16, count 5 = 8",
        "16: rain 2 = -1, rain 0 = -4, rain 1 = 1, count 4 = 1",
        "17: stand 0 21 = -1, stand 0 9 = -4, stand 0 3 = 9, player 0 2 = 1, asked = 3",
        "18: term = 16, rain 1 = 1, stand 0 3 = 9, undo 4 = -1, undo 1 = 2, count 4 = 0, player 0 2 = 1, asked = 9, count 3 = 1",
        "19: term = 16, keep 3 = -1, keep 2 = 1, count 15 = 1",
        "20: keep 0 = 0, term = 16, on 1 = -3, finding = 1, on 0 = 0, count 9 = 0",
        "21: lands 3 1 1 = 0, lands 2 0 0 = -9, lands 4 20 1 = 20, lands 1 5 2 = -1, lands 1 5 0 = 12",
        "22: in 0 5 = 0, in 0 6 = 1, in 0 8 = 0, in 1 21 = -1, in 1 8 = 1",
        "23: seen 0 = 16, seen 4 = -1, seen 3 = 32",
        "24: term = 16, lead 41 = -1, lead 40 = 1, asked = 41",
        "25: amend 0 1 5 = 0, stand 0 3 = 9, stand 1 20 = 5, amend 0 3 5 = -9, amend 0 2 5 = 1, count 7 = 3, at 5 2 = 1, asked = -1",
        "26: row 0 1 = 1, coats 0 0 = -3, finding = 5, row 0 0 = 0, coats 0 0 = 1, asked = 1, lower = 1, upper = 210",
        "27: row 0 0 = 0, sure 1 1 = -3, finding = 1, sure 0 0 = 0, asked = 1056513",
        "28: row 0 0 = 0, next 2 0 = -1, next 1 0 = 8, asked = 114",
        "29: row 0 2 = 2, lay 0 1 21 = 1, stood 1 0 = -3, finding = 3, lay 0 1 12 = 1, stood 1 0 = 32",
        "30: row 0 2 = 2, lay 0 1 12 = 1, kinds 6 0 = -1, kinds 0 0 = 0, kinds 1 0 = 2",
        "31: sets 55 = -1, sets 10 = 1, asked = 5, lower = 1, upper = 4",
        "32: surely 33 = -3, finding = 4, surely 4 = 0, asked = 38",
        "33: stand 5 20 = 13, stand 0 3 = 9, duel 3 = -1, duel 0 = 1, asked = 1, duel 1 = 1, asked = 1, duel 2 = 1, asked = 1",
        "34: odds 2 6 = -1, odds 0 6 = 1, upper = 1, lower = 2",
        "35: mid 13 = -1, mid 5 = 1, upper = 7, lower = 12",
        "36: lots 21 1 = -1, lots 1 2 = 0, count 5 = 4, lots 1 1 = 1, count 3 = 2",
        "37: player 0 2 = 1, player 0 7 = -1, mark 1 1 = 7, asked = 9",
        "38: mid 5 = 1, mid 13 = -1, surely 0 = 0, upper = 7",
        "39: mid 5 = 1, sets 55 = -1, duel 0 = 1, lower = 12",
        "40: count 16 = -1, count 0 = 6, count 6 = 12, count 12 = 2, count 13 = 0, count 14 = 4, count 15 = 0, count 11 = 2",
        "41: tear 0 = -3, row 0 -1 = -3, finding = 5, mark 0 1 = -3, tear 6 = -1, finding = 3"};

    private final CoatGoals x = new CoatGoals();
    private final String name;
    private int made = 0;

    private LongRunsTest(String name) {
        this.name = name;
    }

    public static void main(String[] args) {
        int promise = 2;
        for (String end : ENDS) {
            Checks.due("a run for promise " + promise, Integer.parseInt(end.substring(0, end.indexOf(':'))), promise);
            new LongRunsTest("promise " + promise).endingBy(end.substring(end.indexOf(':') + 1).split(","));
            promise++;
        }
        newObjects();
        findingsOfAll();
        digestAtLast();
        deedsOverAndOver();
        rowsOverAndOver();
        Checks.finish();
    }

    private long call(String call, int... args) {
        made++;
        return Sentence.call(x, call, args);
    }

    private void due(long want, String call, int... args) {
        long got = call(call, args);
        Checks.due(name + ", " + Sentence.named(call, args) + ", call " + made, got, want);
    }

    /** A step is "name number .. = answer". */
    private void due(String step) {
        String[] sides = step.trim().split(" = ");
        String[] words = sides[0].split(" ");
        int[] args = new int[words.length - 1];
        for (int a = 0; a < args.length; a++) {
            args[a] = Integer.parseInt(words[a + 1]);
        }
        due(Long.parseLong(sides[1]), words[0], args);
    }

    private void isAt(int calls) {
        Checks.due(name + ", calls made", made, calls);
    }

    /** Some call or other, mostly one that changes much; what it answers is looked at elsewhere. */
    private void some(int c) {
        switch (c % 16) {
            case 0: call("lots", 1 + c % 20, 1 + c * 7919); break;
            case 1: call("keep", c % 3); break;
            case 2: call("row", c % ROWS, c % 41); break;
            case 3: call("lay", c % ROWS, c % 7, c * 1000003); break;
            case 4: call("undo", c % 30); break;
            case 5: call("amend", c % 2, c % 3, c % ROWS); break;
            case 6: call("copy", c % ROWS, 0, (c + 1) % ROWS, 1, 3); break;
            case 7: call("duel", c % 3); break;
            case 8: call("coats", c % 2, c % ROWS); break;
            case 9: call("odds", c % 2, c % 13); break;
            case 10: call("stand", c % 7, c % 22); break;
            case 11: call("mean", c % ROWS); break;
            case 12: call("nudge", c % 4, c % 7 - 3); break;
            case 13: call("surely", c % 55); break;
            case 14: call("term"); break;
            default: call("on", c % 3); break;
        }
    }

    private void muddy() {
        call("text", 0, Checks.MUDDY.length());
        for (int i = 0; i < Checks.MUDDY.length(); i++) {
            call("put", 0, i, Checks.MUDDY.charAt(i));
        }
        due(6, "republic", 0);
    }

    /** All of a republic, rows and texts is gone but MUDDY in text 0 and what it says; no text goes missing again. */
    private void anew() {
        muddy();
        for (int r = 0; r < ROWS; r++) {
            call("tear", r);
        }
        for (int t = 1; t <= 3; t++) {
            due(0, "text", t, 0);
        }
    }

    private static int anewCalls() {
        return 2 + Checks.MUDDY.length() + ROWS + 3;
    }

    /** Much is done, up to so many calls; then all is anew. */
    private void muchUpTo(int calls) {
        muddy();
        for (int c = 0; made < calls - anewCalls(); c++) {
            some(c);
        }
        anew();
        isAt(calls);
    }

    private void endingBy(String... steps) {
        muchUpTo(CALLS - steps.length);
        for (String step : steps) {
            due(step);
        }
        isAt(CALLS);
    }

    /** Promise 1: what one object was used for is nothing to another one. */
    private static void newObjects() {
        long first = new CoatGoals().digest();
        LongRunsTest run = new LongRunsTest("promise 1");
        run.muchUpTo(CALLS);
        LongRunsTest other = new LongRunsTest("promise 1, a new object");
        for (int what = 0; what <= 15; what++) {
            other.due(0, "count", what);
        }
        other.due(first, "digest");
    }

    /** Promise 42: all but the last of the calls are findings. */
    private static void findingsOfAll() {
        LongRunsTest one = new LongRunsTest("promise 42, one finding");
        for (int c = 1; c < CALLS; c++) {
            one.due(CoatGoals.FINDING, "tear", c % ROWS);
        }
        one.due(CALLS - 1, "findings", 1);
        one.isAt(CALLS);
        LongRunsTest all = new LongRunsTest("promise 42, all findings");
        all.muddy();
        all.call("row", 0, 0);
        for (int c = 0; c < 400; c += 5) {
            all.due(CoatGoals.FINDING, "on", c % 3);
            all.due(CoatGoals.FINDING, "lay", 0, 0, c);
            all.due(CoatGoals.FINDING, "mark", 0, 1 + c % 5);
            all.due(CoatGoals.FINDING, "mean", 0);
            all.due(CoatGoals.FINDING, "text", c % 4, -1 - c);
        }
        for (int f = 1; f <= 5; f++) {
            all.due(80, "findings", f);
        }
    }

    /** Promise 43: behind many calls it is that of an object with the same in it, made by few. */
    private static void digestAtLast() {
        LongRunsTest run = new LongRunsTest("promise 43");
        run.muchUpTo(CALLS - 4);
        CoatGoals few = new CoatGoals();
        Checks.write(few, 0, Checks.MUDDY);
        few.republic(0);
        for (int t = 1; t <= 3; t++) {
            few.text(t, 0);
        }
        run.due(few.digest(), "digest");
        few.term();
        few.keep(1);
        few.lots(19, 2147483646);
        run.due(16, "term");
        run.due(1, "keep", 1);
        few.undo(1);
        run.due(few.digest(), "digest");
        run.isAt(CALLS);
    }

    /** Promises 14 to 18: 40 deeds are done and undone, ten times over, and come to the same each time. */
    private static void deedsOverAndOver() {
        LongRunsTest run = new LongRunsTest("deeds over and over");
        run.muddy();
        long digest = run.call("digest");
        for (int round = 0; round < 10; round++) {
            for (int d = 0; d < 10; d++) {
                // In rain the captain's ball lands at 9, where the boy reaches; player 0 is at d - 1, and in from 4 on.
                run.due(1 - d % 2, "rain", 1 - d % 2);
                run.due((d % 2 == 1 ? 16 : 0) + (d >= 5 ? 1 : 0), "term");
                // Coat 0 is at 5 and 6 in turn, the captain at 8; player 0 is 3 off from 3 on.
                run.due(d >= 4 ? 17 : 16, "nudge", 0, d % 2 == 0 ? 1 : -1);
                run.due(d == 0 ? 9 : d - 1, "stand", 0, d);
            }
            run.due(40, "undo", 0);
            run.due(digest, "digest");
        }
        for (int c = run.made; c < CALLS - 1; c++) {
            run.due(0, "undo", 0);
        }
        run.due(digest, "digest");
        run.isAt(CALLS);
    }

    /** Promises 2 to 7: every place of every row, laid and looked at, and the mean of each. */
    private static void rowsOverAndOver() {
        LongRunsTest run = new LongRunsTest("rows over and over");
        int[] size = {40, 39, 40, 1, 40, 40};
        for (int r = 0; r < ROWS; r++) {
            run.due(size[r], "row", r, size[r]);
            for (int i = 0; i < size[r]; i++) {
                run.due(1, "lay", r, i, Integer.MAX_VALUE - i);
            }
            for (int i = 0; i < size[r]; i++) {
                run.due(1, "at", r, i);
            }
            run.due(1, "mean", r);
            // The mean of the greatest int less 0 .. n - 1 is that less (n - 1) / 2, cut.
            run.due(Integer.MAX_VALUE - size[r] / 2, "asked");
        }
        run.due(ROWS, "count", 13);
        for (int c = run.made; c < CALLS; c++) {
            run.due(1, "copy", 5, 0, 5, 1, 39);
        }
        run.isAt(CALLS);
    }
}
