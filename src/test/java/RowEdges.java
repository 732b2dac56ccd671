import java.util.Arrays;
import java.util.function.Supplier;

/** Promises 1 to 7, sentence by sentence: a new object, row, lay, at, tear, copy, mean. */
final class RowEdges {
    private static final int BAD = CoatGoals.BAD, LEAST = Integer.MIN_VALUE, MOST = Integer.MAX_VALUE;
    private static final int NOTHING = 1, BEYOND = 2, NOUGHT = 4, SIZE = 5;

    private RowEdges() {
    }

    static void run() {
        newObject();
        rowIsThere();
        rowBad();
        rowSize();
        layIsThere();
        layRefused();
        atIsTold();
        atRefused();
        tearIsMissing();
        tearRefused();
        copyComes();
        copyRefused();
        meanIsCut();
        meanRefused();
    }

    private static void newObject() {
        Sentence s = Sentence.of(1, "No ROWS, TEXTS, PLAYERS.");
        s.answers(new CoatGoals(), 0, "count", 13);
        s.answers(new CoatGoals(), 0, "count", 14);
        s.answers(new CoatGoals(), 0, "count", 0);
        for (int r = 0; r <= 5; r++) {
            s.finds(Ready.NEW, NOTHING, "at", r, 0);
        }
        for (int t = 0; t <= 3; t++) {
            s.finds(Ready.NEW, NOTHING, "put", t, 0, 32);
        }
        s.refuses(Ready.NEW, BAD, "player", 0, 0);
    }

    private static void rowIsThere() {
        Sentence s = Sentence.of(2, "A ROW is there with n ints 0: n.");
        for (int r = 0; r <= 5; r++) {
            for (int n : new int[] {0, 1, 39, 40}) {
                CoatGoals x = new CoatGoals();
                s.answers(x, n, "row", r, n);
                s.answers(x, 1, "count", 13);
                for (int i = 0; i < n; i++) {
                    s.tells(x, 0, "at", r, i);
                }
                s.answers(x, CoatGoals.FINDING, "at", r, n);
            }
        }
        // Anew: nothing stays of what was there, neither behind a smaller one.
        CoatGoals x = new CoatGoals();
        x.row(5, 40);
        x.lay(5, 0, 7);
        x.lay(5, 39, 8);
        s.answers(x, 0, "row", 5, 0);
        s.answers(x, 40, "row", 5, 40);
        s.tells(x, 0, "at", 5, 0);
        s.tells(x, 0, "at", 5, 39);
        s.answers(x, 1, "count", 13);
    }

    private static void rowBad() {
        Sentence s = Sentence.of(2, "BAD: also n above 40");
        for (int n : new int[] {41, 42, MOST}) {
            s.refuses(Ready.rows(3), BAD, "row", 0, n);
            s.refuses(Ready.rows(3), BAD, "row", 5, n);
        }
        for (int r : Sentence.outside(0, 5)) {
            for (int n : new int[] {0, 40, 41, -1, LEAST}) {
                s.refuses(Ready.rows(3), BAD, "row", r, n);
            }
        }
    }

    private static void rowSize() {
        Sentence s = Sentence.of(2, "SIZE: below 0");
        s.finds(Ready.rows(3), SIZE, "row", 0, -1);
        s.finds(Ready.rows(3), SIZE, "row", 0, LEAST);
        s.finds(Ready.rows(3), SIZE, "row", 5, -1);
        s.answers(new CoatGoals(), 0, "row", 0, 0);
    }

    private static void layIsThere() {
        Sentence s = Sentence.of(3, "Place i of a ROW is v: what it was, told by asked(): 1.");
        for (int r = 0; r <= 5; r++) {
            for (int i : new int[] {0, 39}) {
                CoatGoals x = new CoatGoals();
                x.row(r, 40);
                s.tells(x, 0, "lay", r, i, LEAST);
                s.tells(x, LEAST, "lay", r, i, MOST);
                s.tells(x, MOST, "lay", r, i, -1);
                for (int j = 0; j < 40; j++) {
                    s.tells(x, j == i ? -1 : 0, "at", r, j);
                }
            }
        }
        CoatGoals one = new CoatGoals();
        one.row(0, 1);
        s.tells(one, 0, "lay", 0, 0, 5);
        s.tells(one, 5, "at", 0, 0);
    }

    private static void layRefused() {
        Sentence s = Sentence.of(3, "BAD; NOTHING; BEYOND.");
        for (int r : Sentence.outside(0, 5)) {
            s.refuses(Ready.rows(3), BAD, "lay", r, 0, 1);
            s.refuses(Ready.rows(3), BAD, "lay", r, 3, 1);
        }
        for (int i : new int[] {0, 3, -1, LEAST, MOST}) {
            s.finds(Ready.rows(3), NOTHING, "lay", 5, i, 1);
        }
        for (int size : new int[] {0, 1, 40}) {
            for (int i : Sentence.outside(0, size - 1)) {
                s.finds(Ready.rows(size), BEYOND, "lay", 4, i, 1);
            }
        }
    }

    private static void atIsTold() {
        Sentence s = Sentence.of(4, "Place i of a ROW, told by asked(): 1.");
        CoatGoals x = new CoatGoals();
        Checks.row(x, 5, LEAST, -1, 0, MOST);
        s.tells(x, LEAST, "at", 5, 0);
        s.tells(x, -1, "at", 5, 1);
        s.tells(x, 0, "at", 5, 2);
        s.tells(x, MOST, "at", 5, 3);
        s.tells(x, MOST, "at", 5, 3);
        x.row(0, 40);
        x.lay(0, 39, CoatGoals.NONE);
        s.tells(x, 0, "at", 0, 0);
        s.tells(x, CoatGoals.NONE, "at", 0, 39);
    }

    private static void atRefused() {
        Sentence s = Sentence.of(4, "BAD; NOTHING; BEYOND.");
        for (int r : Sentence.outside(0, 5)) {
            s.refuses(Ready.rows(3), BAD, "at", r, 0);
            s.refuses(Ready.rows(3), BAD, "at", r, 3);
        }
        for (int i : new int[] {0, 3, -1, LEAST, MOST}) {
            s.finds(Ready.rows(3), NOTHING, "at", 5, i);
        }
        for (int size : new int[] {0, 1, 40}) {
            for (int i : Sentence.outside(0, size - 1)) {
                s.finds(Ready.rows(size), BEYOND, "at", 4, i);
            }
        }
    }

    private static void tearIsMissing() {
        Sentence s = Sentence.of(5, "A ROW is missing: 1.");
        for (int size : new int[] {0, 40}) {
            CoatGoals x = new CoatGoals();
            x.row(0, size);
            x.row(5, size);
            s.answers(x, 1, "tear", 5);
            s.answers(x, 1, "count", 13);
            s.answers(x, 1, "tear", 0);
            s.answers(x, 0, "count", 13);
            Twins.alike(s, "all rows torn", x, new CoatGoals(), 0);
        }
    }

    private static void tearRefused() {
        Sentence s = Sentence.of(5, "BAD; NOTHING.");
        for (int r : Sentence.outside(0, 5)) {
            s.refuses(Ready.rows(3), BAD, "tear", r);
        }
        s.finds(Ready.rows(3), NOTHING, "tear", 5);
        s.finds(Ready.then(Ready.rows(3), x -> x.tear(0)), NOTHING, "tear", 0);
    }

    /** Rows 0 and 1 of forty, 1 to 40 and 101 to 140; row 2 is empty, rows 3 and 4 missing. */
    private static CoatGoals forty() {
        CoatGoals x = new CoatGoals();
        Checks.row(x, 0, upFrom(1));
        Checks.row(x, 1, upFrom(101));
        x.row(2, 0);
        return x;
    }

    private static int[] upFrom(int first) {
        int[] values = new int[40];
        Arrays.setAll(values, i -> first + i);
        return values;
    }

    private static void copied(Sentence s, int[] want, int... args) {
        CoatGoals x = forty();
        s.answers(x, 1, "copy", args);
        for (int i = 0; i < 40; i++) {
            s.tells(x, want[i], "at", args[2], i);
        }
    }

    private static void copyComes() {
        Sentence s = Sentence.of(6, "n places of a ROW, from one on, come to those of another one"
            + " (perhaps itself) from one on, as if taken ahead: 1.");
        copied(s, upFrom(1), 0, 0, 1, 0, 40);
        copied(s, upFrom(101), 1, 0, 1, 0, 40);
        int[] on = upFrom(0);
        on[0] = 1;
        copied(s, on, 0, 0, 0, 1, 39);
        int[] back = upFrom(2);
        back[39] = 40;
        copied(s, back, 0, 1, 0, 0, 39);
        int[] first = upFrom(101);
        first[0] = 40;
        copied(s, first, 0, 39, 1, 0, 1);
        int[] last = upFrom(101);
        last[39] = 1;
        copied(s, last, 0, 0, 1, 39, 1);
        // None: from the first place or from the end on, of an empty one too.
        copied(s, upFrom(101), 0, 0, 1, 0, 0);
        copied(s, upFrom(101), 0, 40, 1, 40, 0);
        copied(s, upFrom(101), 2, 0, 1, 0, 0);
        CoatGoals x = forty();
        s.answers(x, 1, "copy", 0, 0, 2, 0, 0);
        Twins.alike(s, "none come", x, forty(), 0);
        CoatGoals end = new CoatGoals();
        Checks.row(end, 5, 7, 8);
        s.answers(end, 1, "copy", 5, 0, 5, 1, 1);
        s.tells(end, 7, "at", 5, 1);
    }

    private static void copyRefused() {
        Supplier<CoatGoals> ready = RowEdges::forty;
        Sentence bad = Sentence.of(6, "BAD;");
        for (int r : Sentence.outside(0, 5)) {
            bad.refuses(ready, BAD, "copy", r, 0, 1, 0, 1);
            bad.refuses(ready, BAD, "copy", 0, 0, r, 0, 1);
            bad.refuses(ready, BAD, "copy", r, 0, 3, 0, -1);
            bad.refuses(ready, BAD, "copy", 3, 41, r, -1, LEAST);
        }
        Sentence size = Sentence.of(6, "SIZE: n below 0;");
        for (int n : new int[] {-1, LEAST}) {
            size.finds(ready, SIZE, "copy", 0, 0, 1, 0, n);
            size.finds(ready, SIZE, "copy", 3, 0, 1, 0, n);
            size.finds(ready, SIZE, "copy", 0, 0, 4, 0, n);
            size.finds(ready, SIZE, "copy", 0, 41, 1, -1, n);
        }
        Sentence nothing = Sentence.of(6, "NOTHING: either;");
        for (int n : new int[] {0, 1, 41, MOST}) {
            nothing.finds(ready, NOTHING, "copy", 3, 0, 1, 0, n);
            nothing.finds(ready, NOTHING, "copy", 0, 0, 3, 0, n);
            nothing.finds(ready, NOTHING, "copy", 3, -1, 4, 41, n);
        }
        Sentence beyond = Sentence.of(6, "BEYOND: not so many there.");
        int[][] tooMany = {
            {0, 0, 1, 0, 41}, {0, 1, 1, 0, 40}, {0, 0, 1, 1, 40}, {0, 40, 1, 0, 1}, {0, 0, 1, 40, 1},
            {0, -1, 1, 0, 1}, {0, 0, 1, -1, 1}, {0, -1, 1, 0, 0}, {0, 0, 1, -1, 0}, {2, 0, 1, 0, 1}, {1, 0, 2, 0, 1},
            {0, LEAST, 1, 0, 1}, {0, 0, 1, LEAST, 1}, {0, MOST, 1, 0, 1}, {0, 0, 1, MOST, 1}, {0, 0, 1, 0, MOST},
            {0, 1, 1, 0, MOST}, {0, 0, 1, 1, MOST}, {0, MOST, 1, MOST, MOST}, {0, LEAST, 1, LEAST, MOST}};
        for (int[] args : tooMany) {
            beyond.finds(ready, BEYOND, "copy", args);
        }
    }

    private static void meanIs(Sentence s, int want, int... values) {
        CoatGoals x = new CoatGoals();
        Checks.row(x, 5, values);
        s.tells(x, want, "mean", 5);
    }

    private static int[] all(int v) {
        int[] values = new int[40];
        Arrays.fill(values, v);
        return values;
    }

    private static void meanIsCut() {
        Sentence s = Sentence.of(7, "The mean of a ROW's ints, cut, told by asked(): 1.");
        meanIs(s, LEAST, LEAST);
        meanIs(s, MOST, MOST);
        meanIs(s, 0, 1, 0);
        meanIs(s, 0, -1, 0);
        meanIs(s, 1, 3, 0);
        meanIs(s, -1, -3, 0);
        meanIs(s, 2, 2, 3, 3);
        meanIs(s, -2, -2, -3, -3);
        // The sum is beyond an int, the mean is not.
        meanIs(s, MOST, MOST, MOST);
        meanIs(s, LEAST, LEAST, LEAST);
        meanIs(s, MOST - 1, MOST, MOST - 1);
        meanIs(s, LEAST + 1, LEAST, LEAST + 1);
        meanIs(s, 0, LEAST, MOST);
        meanIs(s, MOST, all(MOST));
        meanIs(s, LEAST, all(LEAST));
    }

    private static void meanRefused() {
        Sentence s = Sentence.of(7, "BAD; NOTHING; NOUGHT.");
        for (int r : Sentence.outside(0, 5)) {
            s.refuses(Ready.rows(3), BAD, "mean", r);
        }
        s.finds(Ready.rows(3), NOTHING, "mean", 5);
        s.finds(Ready.rows(0), NOUGHT, "mean", 0);
        s.finds(Ready.rows(0), NOUGHT, "mean", 4);
    }
}
