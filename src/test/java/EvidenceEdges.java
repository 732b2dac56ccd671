import java.util.function.Supplier;

/** Promises 26 to 30, sentence by sentence: coats, sure, next, stood, kinds, and their rows of pairs. */
final class EvidenceEdges {
    private static final int BAD = CoatGoals.BAD, STATE = CoatGoals.STATE, NONE = CoatGoals.NONE;
    private static final int NOTHING = 1, UNLIKE = 3, SIZE = 5, ALL = (1 << 21) - 1;
    private static final String ONE = "g0c05c12c03c15p0094", OTHER = "g1c05c12c03c15p0094";
    private static final String[] GUESSES = {"coats", "sure", "next"}, TRACES = {"stood", "kinds"};

    private EvidenceEdges() {
    }

    static void run() {
        pairsOfGuesses();
        pairsOfTraces();
        coatsMany();
        coatsFirst();
        guessesRefused();
        sureOfAll();
        nextTellsMost();
        nextNone();
        stoodAllTheTime();
        kindsFromPlace();
        tracesRefused();
    }

    private static CoatGoals by(String text, int... row) {
        CoatGoals x = Checks.with(text);
        Checks.row(x, 5, row);
        return x;
    }

    private static Supplier<CoatGoals> ready(int... row) {
        return () -> by(ONE, row);
    }

    /** So many pairs, all of them the same. */
    private static int[] pairs(int many, int first, int second) {
        int[] row = new int[2 * many];
        for (int j = 0; j < many; j++) {
            row[2 * j] = first;
            row[2 * j + 1] = second;
        }
        return row;
    }

    /** What is refused of rows of pairs whose numbers go up to firstMost and secondMost. */
    private static void pairsRefused(Sentence s, String[] calls, int firstMost, int secondMost) {
        for (String call : calls) {
            for (int many = 0; many <= 8; many++) {
                CoatGoals x = by(ONE, pairs(many, firstMost, 0));
                s.due(many + " pairs taken by " + call, Sentence.call(x, call, 0, 5) != CoatGoals.FINDING ? 1 : 0, 1);
                CoatGoals y = by(ONE, pairs(many, 0, secondMost));
                s.due(many + " pairs taken by " + call, Sentence.call(y, call, 0, 5) != CoatGoals.FINDING ? 1 : 0, 1);
            }
            s.finds(ready(), NOTHING, call, 0, 4);
            for (int size : new int[] {1, 3, 15, 17, 18, 19, 39, 40}) {
                s.finds(ready(new int[size]), SIZE, call, 0, 5);
                int[] unlike = new int[size];
                unlike[0] = -1;
                s.finds(ready(unlike), SIZE, call, 0, 5);
            }
            for (int v : Sentence.outside(0, firstMost)) {
                s.finds(ready(v, 0), UNLIKE, call, 0, 5);
                int[] last = pairs(8, 0, 0);
                last[14] = v;
                s.finds(ready(last), UNLIKE, call, 0, 5);
            }
            for (int v : Sentence.outside(0, secondMost)) {
                s.finds(ready(0, v), UNLIKE, call, 0, 5);
                int[] last = pairs(8, 0, 0);
                last[15] = v;
                s.finds(ready(last), UNLIKE, call, 0, 5);
            }
        }
    }

    private static void pairsOfGuesses() {
        Sentence s = Sentence.ofTerms("(a ROW of pairs, 0 to 8: where a ball LANDED 0 .. 20, whether it was IN 1, 0:"
            + " NOTHING; SIZE; UNLIKE; behind BAD, STATE).");
        pairsRefused(s, GUESSES, 20, 1);
    }

    private static void pairsOfTraces() {
        Sentence s = Sentence.ofTerms("(a ROW of pairs, 0 to 8: RAIN 1, 0, where its ball LANDED 0 .. 20:"
            + " NOTHING; SIZE; UNLIKE; behind BAD).");
        pairsRefused(s, TRACES, 1, 20);
    }

    private static void coats(Sentence s, String text, int many, int... row) {
        for (int end = 0; end <= 1; end++) {
            s.tellsPart(by(text, row), many, 1, "coats", end, 5);
        }
    }

    private static void coatsMany() {
        Sentence s = Sentence.of(26, "How many pairs of PLACES the COATS of an END can be at by these (the lower one's below"
            + " the other's; KEEPERS as they are), told by upper() (lower() is 1);");
        coats(s, ONE, 210);
        coats(s, OTHER, 210);
        // With SCHOOL 0 no ball is ever in at an edge, with SCHOOL 1 the coat is there then.
        coats(s, ONE, 0, 0, 1);
        coats(s, ONE, 0, 20, 1);
        coats(s, ONE, 210, 0, 0, 20, 0);
        coats(s, OTHER, 20, 0, 1);
        coats(s, OTHER, 20, 20, 1);
        coats(s, OTHER, 1, 0, 1, 20, 1);
        coats(s, OTHER, 171, 0, 0, 20, 0);
        coats(s, ONE, 19, 1, 1);
        coats(s, ONE, 19, 19, 1);
        coats(s, ONE, 1, 1, 1, 19, 1);
        coats(s, ONE, 1, 5, 1, 4, 0, 6, 0, 5, 1, 5, 1, 5, 1, 5, 1, 5, 1);
        coats(s, ONE, 0, 5, 1, 5, 0);
        coats(s, ONE, 0, 5, 1, 5, 1, 5, 1, 5, 1, 5, 1, 5, 1, 5, 1, 5, 0);
        // Above 20 and below 0 there is no place: what was told before is gone.
        CoatGoals x = by(ONE, 0, 1);
        x.mid(5);
        s.tellsPart(x, 0, 1, "coats", 0, 5);
        keepersAsTheyAre(s);
    }

    private static void keepersAsTheyAre(Sentence s) {
        // The boy of SIDE 1 reaches 6 to 14: at END 1 a ball there is never in.
        String boy = "g1c05c12c03c15b1109";
        s.tellsPart(by(boy, 6, 1), 0, 1, "coats", 1, 5);
        s.tellsPart(by(boy, 14, 1), 0, 1, "coats", 1, 5);
        s.tellsPart(by(boy, 6, 0, 10, 0, 14, 0), 210, 1, "coats", 1, 5);
        // With SCHOOL 1 a ball is in at 5 with 6 * 16 - 1 pairs, at 15 likewise, at 10 with 11 * 11 - 1.
        s.tellsPart(by(boy, 5, 1), 95, 1, "coats", 1, 5);
        s.tellsPart(by(boy, 15, 1), 95, 1, "coats", 1, 5);
        s.tellsPart(by(boy, 10, 1), 120, 1, "coats", 0, 5);
        CoatGoals x = by(boy, 10, 1);
        x.stand(0, 15);
        s.tellsPart(x, 120, 1, "coats", 1, 5);
        x.stand(0, 14);
        s.tellsPart(x, 0, 1, "coats", 1, 5);
    }

    private static void first(Sentence s, String text, int asked, int... row) {
        for (int end = 0; end <= 1; end++) {
            s.tells(by(text, row), asked, "coats", end, 5);
        }
    }

    private static void coatsFirst() {
        Sentence s = Sentence.of(26, "the first by asked() (32 times the lower one's, and the other's; lesser ones ahead; NONE): 1.");
        first(s, ONE, 1);
        first(s, ONE, NONE, 0, 1);
        first(s, OTHER, 1, 0, 1);
        first(s, OTHER, 20, 20, 1);
        first(s, OTHER, 32 * 19 + 20, 18, 0, 20, 1);
        first(s, ONE, 32 * 18 + 20, 18, 0, 19, 1);
        first(s, ONE, 2, 1, 1);
        first(s, ONE, 20, 19, 1);
        first(s, OTHER, 32 + 2, 0, 0);
        // Lesser lower ones ahead of lesser other ones.
        first(s, ONE, 32 * 4 + 8, 4, 0, 7, 1);
    }

    private static void guessesRefused() {
        int[] promises = {26, 27, 28};
        String[] words = {"BAD; STATE: no PLAYERS; NOTHING; SIZE; UNLIKE. (In this order.)",
            "BAD; STATE; NOTHING; SIZE; UNLIKE. (In this order.)", "BAD; STATE; NOTHING; SIZE; UNLIKE. (In this order.)"};
        for (int c = 0; c < 3; c++) {
            Sentence s = Sentence.of(promises[c], words[c]);
            Supplier<CoatGoals> noPlayers = Ready.then(Ready.NEW, x -> Checks.row(x, 5, 21, 2, 21));
            for (int end : Sentence.outside(0, 1)) {
                s.refuses(ready(), BAD, GUESSES[c], end, 5);
                s.refuses(ready(), BAD, GUESSES[c], end, 4);
                s.refuses(noPlayers, BAD, GUESSES[c], end, 5);
            }
            for (int r : Sentence.outside(0, 5)) {
                s.refuses(ready(), BAD, GUESSES[c], 0, r);
                s.refuses(noPlayers, BAD, GUESSES[c], 1, r);
            }
            s.refuses(noPlayers, STATE, GUESSES[c], 0, 5);
            s.refuses(noPlayers, STATE, GUESSES[c], 1, 4);
            s.refuses(Ready.NEW, STATE, GUESSES[c], 0, 0);
            s.finds(ready(), NOTHING, GUESSES[c], 1, 0);
            s.finds(ready(21, 2, 21), SIZE, GUESSES[c], 1, 5);
            s.finds(ready(pairs(9, 21, 2)), SIZE, GUESSES[c], 1, 5);
            s.finds(ready(21, 2), UNLIKE, GUESSES[c], 1, 5);
            s.finds(ready(5, 1, 5, 0, 21, 0), UNLIKE, GUESSES[c], 0, 5);
        }
    }

    private static void sure(Sentence s, String text, int all, int none, int... row) {
        for (int end = 0; end <= 1; end++) {
            s.answersAndTells(by(text, row), all, none, "sure", end, 5);
        }
    }

    private static void sureOfAll() {
        Sentence s = Sentence.of(27, "PLACES (bits) at which a ball is IN with all of these pairs;"
            + " those with none by asked() (all of both, if there is no pair).");
        sure(s, ONE, 0, Checks.bits(0, 20));
        sure(s, OTHER, 0, 0);
        sure(s, ONE, ALL, ALL, 0, 1);
        sure(s, OTHER, ALL, ALL, 7, 1, 7, 0);
        sure(s, OTHER, ALL, 0, 0, 1, 20, 1);
        sure(s, ONE, Checks.range(1, 19), Checks.bits(0, 20), 1, 1, 19, 1);
        sure(s, OTHER, Checks.bits(19, 20), Checks.range(0, 18), 18, 0, 20, 1);
        sure(s, OTHER, Checks.bits(0, 1), Checks.range(2, 20), 0, 1, 2, 0);
        sure(s, ONE, Checks.bits(5), ALL & ~Checks.bits(5), 4, 0, 5, 1, 6, 0);
        // In at 0 and 20, but where the boy reaches at END 1, 6 to 14, none is ever in.
        CoatGoals kept = by("g1c05c12c03c15b1109", 0, 1, 20, 1);
        s.answersAndTells(kept, ALL & ~Checks.range(6, 14), Checks.range(6, 14), "sure", 1, 5);
        s.answersAndTells(kept, ALL, 0, "sure", 0, 5);
        // It does not tell by upper().
        s.answers(kept, 0, "upper");
    }

    private static void next(Sentence s, String text, int place, int part, int... row) {
        for (int end = 0; end <= 1; end++) {
            s.answersAndTells(by(text, row), place, part, "next", end, 5);
        }
    }

    private static void nextTellsMost() {
        Sentence s = Sentence.of(28, "The PLACE (0 .. 20; the first) at which a ball tells most of them:"
            + " the greatest part by which it is IN, or is not, is least; that part by asked().");
        // Of 210 pairs a ball at p is in with p * (20 - p), with the other school (p + 1) * (21 - p) - 1.
        next(s, ONE, 10, 110);
        next(s, OTHER, 6, 106);
        // One pair left: each place is as good, the first one is told.
        next(s, ONE, 0, 1, 1, 1, 19, 1);
        next(s, OTHER, 0, 1, 0, 1, 20, 1);
        // Two left, which a ball tells at 0 alone, or at 20 alone.
        next(s, OTHER, 0, 1, 1, 1, 2, 1, 3, 0);
        next(s, OTHER, 20, 1, 17, 0, 18, 1, 19, 1);
        next(s, ONE, 1, 1, 2, 1, 3, 0);
        next(s, ONE, 19, 1, 18, 1, 17, 0);
        // The lower one 0 to 2, the other one 4: in at 1 with one of three, at 2 with two of them.
        next(s, ONE, 1, 2, 3, 1, 4, 0);
        // Where the boy reaches nothing is told: 6 to 14 are of no use.
        CoatGoals kept = by("g0c05c12c03c15b1109");
        s.answersAndTells(kept, 5, 135, "next", 1, 5);
        s.answersAndTells(kept, 10, 110, "next", 0, 5);
    }

    private static void nextNone() {
        Sentence s = Sentence.of(28, "NONE: there is no pair.");
        for (int end = 0; end <= 1; end++) {
            s.refuses(Ready.then(ready(0, 1), x -> x.lead(40)), NONE, "next", end, 5);
            s.refuses(ready(5, 1, 5, 0), NONE, "next", end, 5);
            s.refuses(ready(20, 1), NONE, "next", end, 5);
        }
    }

    private static void stood(Sentence s, String player, int places, int... row) {
        CoatGoals x = by("g0c05c12c03c15" + player, row);
        s.answers(x, places, "stood", 0, 5);
        x.rain(1);
        x.stand(0, 0);
        s.answers(x, places, "stood", 0, 5);
    }

    private static void stoodAllTheTime() {
        Sentence s = Sentence.of(29, "At which PLACES (bits) a PLAYER can have stood, all the time, by these.");
        for (String player : new String[] {"p0091", "w1099", "k0091", "h1091", "t0099", "b1091"}) {
            stood(s, player, ALL);
        }
        stood(s, "p0091", 1, 0, 0);
        stood(s, "p0091", 1 << 20, 1, 20);
        stood(s, "p0091", 1 << 7, pairs(8, 0, 7));
        stood(s, "p0091", 0, 0, 7, 1, 8);
        stood(s, "w0099", Checks.range(11, 20), 0, 20);
        stood(s, "w0099", 1, 1, 9);
        stood(s, "w0099", 0, 1, 8);
        stood(s, "w0091", Checks.bits(19, 20), 0, 20);
        stood(s, "h0091", Checks.range(0, 2), 1, 0);
        stood(s, "h0091", 1 << 20, 1, 18);
        stood(s, "h0091", 0, 1, 19);
        stood(s, "h0091", 1 << 20, 0, 20, 1, 18);
        stood(s, "h0091", 1 << 2, 0, 2, 1, 0);
        stood(s, "t0099", Checks.range(16, 20), 0, 20);
        stood(s, "t0099", Checks.range(11, 20), 1, 20);
        stood(s, "t0099", Checks.range(16, 20), 1, 20, 0, 20);
        stood(s, "t0099", 1 << 15, 1, 20, 0, 19);
        stood(s, "t0091", 1 << 4, 0, 4, 1, 5);
        // One that does not shoot has landed no ball.
        stood(s, "k0091", 0, 0, 9);
        stood(s, "b0091", 0, 1, 9);
    }

    private static void kinds(Sentence s, String player, int kinds, int... row) {
        s.answers(by("g0c05c12c03c15" + player, row), kinds, "kinds", 0, 5);
    }

    private static void kindsFromPlace() {
        Sentence s = Sentence.of(30, "Of which KINDS (bits) a PLAYER can be by these, from its PLACE as it is.");
        for (String player : new String[] {"p0091", "w1099", "k0091", "h1091", "t0099", "b1091"}) {
            kinds(s, player, 63);
            kinds(s, player, Checks.bits(0, 3) | (player.endsWith("1") ? Checks.bits(4) : 0), 0, 9);
        }
        kinds(s, "p0209", Checks.bits(0, 1, 3, 4), 0, 20);
        kinds(s, "b0209", Checks.bits(0, 1, 4), 1, 20);
        kinds(s, "k0209", Checks.bits(3), 1, 18);
        kinds(s, "p0009", Checks.bits(0, 3), 1, 0);
        kinds(s, "p0009", Checks.bits(1, 4), 1, 9);
        kinds(s, "p0009", Checks.bits(4), 1, 9, 0, 4);
        kinds(s, "p0009", Checks.bits(1), pairs(8, 0, 9));
        kinds(s, "p0009", 0, 0, 1);
        kinds(s, "p0001", Checks.bits(0, 3, 4), 0, 0);
        kinds(s, "p0029", Checks.bits(3), 1, 0);
        kinds(s, "p0039", 0, 1, 0);
        // As it is: where it stands now, wherever that was.
        CoatGoals x = by("g0c05c12c03c15p0039", 1, 0);
        x.stand(0, 2);
        s.answers(x, Checks.bits(3), "kinds", 0, 5);
        x.stand(0, 0);
        s.answers(x, Checks.bits(0, 3), "kinds", 0, 5);
    }

    private static void tracesRefused() {
        int[] promises = {29, 30};
        for (int c = 0; c < 2; c++) {
            Sentence s = Sentence.of(promises[c], "BAD; NOTHING; SIZE; UNLIKE.");
            for (int i : Sentence.outside(0, 0)) {
                s.refuses(ready(), BAD, TRACES[c], i, 5);
                s.refuses(ready(), BAD, TRACES[c], i, 4);
                s.refuses(ready(2, 21, 2), BAD, TRACES[c], i, 5);
            }
            for (int i : Sentence.outside(0, 5)) {
                s.refuses(Ready.republic(Checks.MUDDY), BAD, TRACES[c], i, 0);
            }
            for (int r : Sentence.outside(0, 5)) {
                s.refuses(ready(), BAD, TRACES[c], 0, r);
            }
            s.refuses(Ready.NEW, BAD, TRACES[c], 0, 0);
            s.refuses(Ready.then(Ready.NEW, x -> x.row(5, 1)), BAD, TRACES[c], 0, 5);
            s.finds(ready(), NOTHING, TRACES[c], 0, 0);
            s.finds(ready(2, 21, 2), SIZE, TRACES[c], 0, 5);
            s.finds(ready(pairs(9, 2, 21)), SIZE, TRACES[c], 0, 5);
            s.finds(ready(2, 21), UNLIKE, TRACES[c], 0, 5);
            s.finds(ready(0, 9, 0, 8, 0, 21), UNLIKE, TRACES[c], 0, 5);
        }
    }
}
