import java.util.Arrays;

/**
 * A muddy republic whose goalposts are coats: players of kinds read from a small language, deeds
 * that can be undone, and questions about where balls land, where coats were, and who leads.
 * The promises it keeps stand, numbered, in the project's document.
 */
public final class CoatGoals {
    public static final int BAD = -1, FULL = -2, FINDING = -3, STATE = -4, SPENT = -6, NONE = -9;

    private static final int NOTHING = 1, BEYOND = 2, UNLIKE = 3, NOUGHT = 4, SIZE = 5;
    private static final int ROWS = 6, ROW_MOST = 40, TEXTS = 4, TEXT_MOST = 60, KEPT = 3;
    private static final int PLAYERS_MOST = 6, DEEDS_MOST = 40, COATS = 4;
    private static final int PLACE_MOST = 20, ALL_PLACES = (1 << (PLACE_MOST + 1)) - 1;
    private static final int BLANK = 32, OFF_MOST = 3, SIGHT = 3, PAIRS_MOST = 8;
    private static final int GOALS_MOST = 6, TERMS_MOST = 40, STRENGTH_MOST = 54, TURNS_MOST = 2;
    private static final int WIDE_OF = 12, LOTS_MOST = 20;
    private static final long LOT_FACTOR = 48271L, LOT_MODULUS = 2147483647L;

    private final Strip[] rows = new Strip[ROWS];
    private final Strip[] texts = new Strip[TEXTS];
    private final Republic now = new Republic();
    private final Republic draft = new Republic();
    private final Republic[] kept = new Republic[KEPT];
    private final Balls balls = new Balls();
    private final Amendment amendment = new Amendment();
    private final Duel contest = new Duel();
    private final Guesses guesses = new Guesses();
    private final int[] found = new int[SIZE + 1];
    private int latestFinding;
    private int latestAsked;
    private long latestUpper;
    private long latestLower = 1L;

    public CoatGoals() {
        for (int r = 0; r < ROWS; r++) {
            rows[r] = new Strip(ROW_MOST);
        }
        for (int t = 0; t < TEXTS; t++) {
            texts[t] = new Strip(TEXT_MOST);
        }
        for (int k = 0; k < KEPT; k++) {
            kept[k] = new Republic();
        }
    }

    // ---- 1 rows, texts, republics

    public int row(int r, int n) {
        if (!within(r, ROWS - 1) || n > ROW_MOST) {
            return BAD;
        }
        return begun(rows[r], n, 0);
    }

    public int lay(int r, int i, int v) {
        if (!within(r, ROWS - 1)) {
            return BAD;
        }
        int finding = rows[r].findingAt(i);
        if (finding != 0) {
            return refuse(finding);
        }
        int was = rows[r].items[i];
        rows[r].items[i] = v;
        return answer(was);
    }

    public int at(int r, int i) {
        if (!within(r, ROWS - 1)) {
            return BAD;
        }
        int finding = rows[r].findingAt(i);
        if (finding != 0) {
            return refuse(finding);
        }
        return answer(rows[r].items[i]);
    }

    public int tear(int r) {
        if (!within(r, ROWS - 1)) {
            return BAD;
        }
        if (!rows[r].there) {
            return refuse(NOTHING);
        }
        rows[r].there = false;
        return 1;
    }

    public int copy(int r, int i, int to, int j, int n) {
        if (!within(r, ROWS - 1) || !within(to, ROWS - 1)) {
            return BAD;
        }
        if (n < 0) {
            return refuse(SIZE);
        }
        if (!rows[r].there || !rows[to].there) {
            return refuse(NOTHING);
        }
        if (!rows[r].holds(i, n) || !rows[to].holds(j, n)) {
            return refuse(BEYOND);
        }
        System.arraycopy(rows[r].items, i, rows[to].items, j, n);
        return 1;
    }

    public int mean(int r) {
        if (!within(r, ROWS - 1)) {
            return BAD;
        }
        if (!rows[r].there) {
            return refuse(NOTHING);
        }
        if (rows[r].size == 0) {
            return refuse(NOUGHT);
        }
        return answer((int) (rows[r].sum() / rows[r].size));
    }

    public int text(int t, int n) {
        if (!within(t, TEXTS - 1) || n > TEXT_MOST) {
            return BAD;
        }
        return begun(texts[t], n, BLANK);
    }

    public int put(int t, int i, int v) {
        if (!within(t, TEXTS - 1)) {
            return BAD;
        }
        int finding = texts[t].findingAt(i);
        if (finding != 0) {
            return refuse(finding);
        }
        int was = texts[t].items[i];
        texts[t].items[i] = (byte) v;
        return was + 1000;
    }

    public int fault(int t) {
        if (!within(t, TEXTS - 1)) {
            return BAD;
        }
        if (!texts[t].there) {
            return refuse(NOTHING);
        }
        return new Reader(texts[t]).read(draft);
    }

    public int republic(int t) {
        if (!within(t, TEXTS - 1)) {
            return BAD;
        }
        if (!texts[t].there) {
            return refuse(NOTHING);
        }
        if (new Reader(texts[t]).read(draft) != NONE) {
            return STATE;
        }
        now.take(draft);
        for (int k = 0; k < KEPT; k++) {
            kept[k].clear();
        }
        return now.players;
    }

    public int player(int i, int what) {
        if (!now.hasPlayer(i) || !within(what, 6)) {
            return BAD;
        }
        return answer(now.fact(i, what));
    }

    public int mark(int i, int kind) {
        if (!now.hasPlayer(i) || kind < Kinds.WINGER || kind > Kinds.BOY) {
            return BAD;
        }
        if (!Kinds.isOf(now.kind[i], kind)) {
            return refuse(UNLIKE);
        }
        switch (kind) {
            case Kinds.WINGER:
                return Math.abs(now.landing(i) - now.place[i]);
            case Kinds.KEEPER:
                return Integer.bitCount(now.reached(i));
            case Kinds.HEAVY:
                return now.ballsOf(now.side[i], now.ballBit(i, 0));
            case Kinds.CAPTAIN:
                return Math.abs(now.landingFrom(i, now.place[i], 1 - now.wet) - now.landing(i));
            default:
                return now.ballsOf(1 - now.side[i], now.reached(i));
        }
    }

    // ---- 2 deeds

    public int term() {
        if (now.players == 0) {
            return STATE;
        }
        if (now.deeds >= DEEDS_MOST) {
            return FULL;
        }
        int who = now.scorers(0);
        now.endTerm(who);
        return who;
    }

    public int nudge(int k, int n) {
        if (!within(k, COATS - 1) || n < -OFF_MOST || n > OFF_MOST || n == 0) {
            return BAD;
        }
        if (now.players == 0 || !mayMove(now.coat, k, n)) {
            return STATE;
        }
        if (now.deeds >= DEEDS_MOST) {
            return FULL;
        }
        int witnesses = now.witnesses(k);
        now.moveCoat(k, n);
        return witnesses;
    }

    public int rain(int is) {
        if (!within(is, 1)) {
            return BAD;
        }
        if (now.players == 0 || now.wet == is) {
            return STATE;
        }
        if (now.deeds >= DEEDS_MOST) {
            return FULL;
        }
        now.turnWeather(is);
        return is;
    }

    public int stand(int i, int place) {
        if (!now.hasPlayer(i) || !within(place, PLACE_MOST)) {
            return BAD;
        }
        if (now.place[i] == place) {
            return STATE;
        }
        if (now.deeds >= DEEDS_MOST) {
            return FULL;
        }
        int was = now.place[i];
        now.send(i, place);
        return was;
    }

    public int undo(int n) {
        if (!within(n, now.deeds)) {
            return BAD;
        }
        return now.takeBack(n);
    }

    public int keep(int k) {
        if (!within(k, KEPT - 1)) {
            return BAD;
        }
        if (now.players == 0) {
            return STATE;
        }
        kept[k].take(now);
        return now.deeds;
    }

    public int on(int k) {
        if (!within(k, KEPT - 1)) {
            return BAD;
        }
        if (!isKept(k)) {
            return refuse(NOTHING);
        }
        now.take(kept[k]);
        return now.deeds;
    }

    // ---- 3 what would be (aside)

    public int lands(int i, int place, int rain) {
        if (!now.hasPlayer(i) || !within(place, PLACE_MOST) || !within(rain, 1)) {
            return BAD;
        }
        return now.landingFrom(i, place, rain);
    }

    public int in(int end, int place) {
        if (!within(end, 1) || !within(place, PLACE_MOST)) {
            return BAD;
        }
        if (now.players == 0) {
            return STATE;
        }
        return (now.inPlaces(end) >> place) & 1;
    }

    public int seen(int k) {
        if (!within(k, COATS - 1)) {
            return BAD;
        }
        if (now.players == 0) {
            return STATE;
        }
        return now.witnesses(k);
    }

    public int lead(int n) {
        if (!within(n, TERMS_MOST)) {
            return BAD;
        }
        if (now.players == 0) {
            return STATE;
        }
        return answer(now.goals[0] - now.goals[1] + n * now.advantage(0, 0));
    }

    // ---- 4 amendments (aside, now)

    public int amend(int side, int v, int r) {
        if (!within(side, 1) || !within(v, GOALS_MOST) || !within(r, ROWS - 1)) {
            return BAD;
        }
        if (now.players == 0) {
            return STATE;
        }
        balls.take(now);
        amendment.weigh(now, balls);
        int steps = amendment.fewest(side, v);
        if (steps != NONE) {
            rows[r].begin(COATS, 0);
            amendment.write(rows[r].items);
        }
        return steps;
    }

    // ---- 5 by what was in

    public int coats(int end, int r) {
        int refused = refusedGuess(end, r);
        if (refused != 0) {
            return refused;
        }
        guesses.weigh(now, end, rows[r]);
        tell(guesses.pairs, 1L);
        return answer(guesses.first);
    }

    public int sure(int end, int r) {
        int refused = refusedGuess(end, r);
        if (refused != 0) {
            return refused;
        }
        guesses.weigh(now, end, rows[r]);
        answer(guesses.placesInWith(0));
        return guesses.placesInWith(guesses.pairs);
    }

    public int next(int end, int r) {
        int refused = refusedGuess(end, r);
        if (refused != 0) {
            return refused;
        }
        guesses.weigh(now, end, rows[r]);
        if (guesses.pairs == 0) {
            return NONE;
        }
        int place = guesses.tellingPlace();
        answer(guesses.greaterPart(place));
        return place;
    }

    // ---- 6 by where balls landed

    public int stood(int i, int r) {
        int refused = refusedTrace(i, r);
        if (refused != 0) {
            return refused;
        }
        int places = 0;
        for (int p = 0; p <= PLACE_MOST; p++) {
            if (landedSo(rows[r], now.kind[i], p, now.strength[i])) {
                places |= 1 << p;
            }
        }
        return places;
    }

    public int kinds(int i, int r) {
        int refused = refusedTrace(i, r);
        if (refused != 0) {
            return refused;
        }
        int fitting = 0;
        for (int kind = Kinds.PLAYER; kind <= Kinds.BOY; kind++) {
            if (landedSo(rows[r], kind, now.place[i], now.strength[i])) {
                fitting |= 1 << kind;
            }
        }
        return fitting;
    }

    // ---- 7 whose strength

    public int sets(int v) {
        if (!within(v, STRENGTH_MOST)) {
            return BAD;
        }
        if (now.players == 0) {
            return STATE;
        }
        int many = 0;
        int first = NONE;
        for (int set = (1 << now.players) - 1; set >= 0; set--) {
            if (now.strengthOf(set) == v) {
                many++;
                first = set;
            }
        }
        tell(many, 1L);
        return answer(first);
    }

    public int surely(int v) {
        if (!within(v, STRENGTH_MOST)) {
            return BAD;
        }
        if (now.players == 0) {
            return STATE;
        }
        int all = (1 << now.players) - 1;
        int inEach = all;
        int inSome = 0;
        boolean isOne = false;
        for (int set = 0; set <= all; set++) {
            if (now.strengthOf(set) == v) {
                isOne = true;
                inEach &= set;
                inSome |= set;
            }
        }
        if (!isOne) {
            return refuse(NOUGHT);
        }
        answer(all & ~inSome);
        return inEach;
    }

    // ---- 8 by turns

    public int duel(int n) {
        if (!within(n, TURNS_MOST)) {
            return BAD;
        }
        if (now.players == 0) {
            return STATE;
        }
        balls.take(now);
        return answer(contest.outcome(now, balls, 2 * n));
    }

    // ---- 9 chances, lots

    public int odds(int side, int p) {
        if (!within(side, 1) || !within(p, WIDE_OF)) {
            return BAD;
        }
        if (now.players == 0) {
            return STATE;
        }
        long ahead = 0L;
        long all = 0L;
        for (int wide = 0; wide < 1 << now.players; wide++) {
            long weight = weightOf(wide, p);
            all += weight;
            if (now.advantage(side, wide) > 0) {
                ahead += weight;
            }
        }
        tell(ahead, all);
        return 1;
    }

    public int mid(int p) {
        if (!within(p, WIDE_OF)) {
            return BAD;
        }
        if (now.players == 0) {
            return STATE;
        }
        int everyone = (1 << now.players) - 1;
        int straight = Integer.bitCount(now.scorers(0));
        int wide = Integer.bitCount(now.scorers(everyone));
        tell((long) (straight * (WIDE_OF - p) + wide * p), WIDE_OF);
        return 1;
    }

    public int lots(int n, int seed) {
        if (n < 1 || n > LOTS_MOST || seed < 1 || seed >= LOT_MODULUS) {
            return BAD;
        }
        if (now.players == 0) {
            return STATE;
        }
        if (now.deeds + n > DEEDS_MOST) {
            return FULL;
        }
        long lot = seed;
        for (int d = 0; d < n; d++) {
            lot = lot * LOT_FACTOR % LOT_MODULUS;
            doByLot((int) lot);
        }
        return now.goals[0] + now.goals[1];
    }

    // ---- 10 what is told

    public int asked() {
        return latestAsked;
    }

    public long upper() {
        return latestUpper;
    }

    public long lower() {
        return latestLower;
    }

    public int count(int what) {
        if (!within(what, 15)) {
            return BAD;
        }
        switch (what) {
            case 13:
                return thereOf(rows);
            case 14:
                return thereOf(texts);
            case 15:
                return keptMany();
            default:
                return now.number(what);
        }
    }

    public int finding() {
        return latestFinding;
    }

    public int findings(int f) {
        if (f < NOTHING || f > SIZE) {
            return BAD;
        }
        return found[f];
    }

    public long digest() {
        long h = 17L;
        for (int what = 0; what <= 15; what++) {
            h = 31L * h + count(what);
        }
        for (int i = 0; i < now.players; i++) {
            for (int what = 0; what <= 6; what++) {
                h = 31L * h + now.fact(i, what);
            }
        }
        for (int k = 0; k < KEPT; k++) {
            h = 31L * h + (isKept(k) ? kept[k].deeds : -1);
        }
        for (int r = 0; r < ROWS; r++) {
            h = rows[r].digestOnto(h);
        }
        for (int t = 0; t < TEXTS; t++) {
            h = texts[t].digestOnto(h);
        }
        return h;
    }

    // ---- what the calls share

    private static boolean within(int v, int most) {
        return v >= 0 && v <= most;
    }

    /** The bits from one place to another; none, if the last is below the first. */
    private static int span(int first, int last) {
        return last < first ? 0 : ((1 << (last - first + 1)) - 1) << first;
    }

    /** Where a ball counts between two coats, keepers aside. */
    private static int between(int school, int low, int high) {
        return school == 1 ? span(low, high) : span(low + 1, high - 1);
    }

    private static boolean mayMove(int[] coat, int k, int n) {
        int to = coat[k] + n;
        boolean ordered = (k & 1) == 0 ? to < coat[k + 1] : to > coat[k - 1];
        return ordered && within(to, PLACE_MOST);
    }

    private int refuse(int finding) {
        latestFinding = finding;
        found[finding]++;
        return FINDING;
    }

    private int answer(int told) {
        latestAsked = told;
        return 1;
    }

    /** Tells a fraction in lowest terms; the lower number must be above 0. */
    private void tell(long upper, long lower) {
        long a = upper;
        long b = lower;
        for (int step = 0; step < 200 && b != 0L; step++) {
            long rest = a % b;
            a = b;
            b = rest;
        }
        if (a > 0L) {
            latestUpper = upper / a;
            latestLower = lower / a;
        }
    }

    private int begun(Strip strip, int n, int filling) {
        if (n < 0) {
            return refuse(SIZE);
        }
        strip.begin(n, filling);
        return n;
    }

    private boolean isKept(int k) {
        return kept[k].players > 0;
    }

    private int keptMany() {
        int many = 0;
        for (int k = 0; k < KEPT; k++) {
            if (isKept(k)) {
                many++;
            }
        }
        return many;
    }

    private static int thereOf(Strip[] strips) {
        int many = 0;
        for (int s = 0; s < strips.length; s++) {
            if (strips[s].there) {
                many++;
            }
        }
        return many;
    }

    /** What refuses a question about coats by a row of pairs; 0, if nothing does. */
    private int refusedGuess(int end, int r) {
        if (!within(end, 1) || !within(r, ROWS - 1)) {
            return BAD;
        }
        if (now.players == 0) {
            return STATE;
        }
        int finding = rows[r].findingOfPairs(PLACE_MOST, 1);
        return finding == 0 ? 0 : refuse(finding);
    }

    /** What refuses a question about a player by a row of pairs; 0, if nothing does. */
    private int refusedTrace(int i, int r) {
        if (!now.hasPlayer(i) || !within(r, ROWS - 1)) {
            return BAD;
        }
        int finding = rows[r].findingOfPairs(1, PLACE_MOST);
        return finding == 0 ? 0 : refuse(finding);
    }

    private static boolean landedSo(Strip pairs, int kind, int place, int strength) {
        for (int j = 0; j + 1 < pairs.size; j += 2) {
            if (Kinds.landing(kind, place, strength, pairs.items[j]) != pairs.items[j + 1]) {
                return false;
            }
        }
        return true;
    }

    /** The weight, of 12 for each player, of just these balls going wide. */
    private long weightOf(int wide, int p) {
        long weight = 1L;
        for (int i = 0; i < now.players; i++) {
            weight *= ((wide >> i) & 1) == 1 ? p : WIDE_OF - p;
        }
        return weight;
    }

    private void doByLot(int lot) {
        int what = lot / 8 % 8;
        if (what <= 2) {
            now.endTerm(now.scorers(0));
        } else if (what <= 4) {
            int k = lot / 64 % COATS;
            int n = what == 3 ? -1 : 1;
            // Each number is a deed in any case: a coat that may not be nudged is moved by none.
            now.moveCoat(k, mayMove(now.coat, k, n) ? n : 0);
        } else if (what == 5) {
            now.turnWeather(1 - now.wet);
        } else if (now.players > 0) {
            now.send(lot % now.players, lot / 64 % (PLACE_MOST + 1));
        }
    }

    /** What the kinds of players do; kinds are numbers, as the document has them. */
    private static final class Kinds {
        static final int PLAYER = 0, WINGER = 1, KEEPER = 2, HEAVY = 3, CAPTAIN = 4, BOY = 5;

        static int ofLetter(int sign) {
            switch (sign) {
                case 'p':
                    return PLAYER;
                case 'w':
                    return WINGER;
                case 'k':
                    return KEEPER;
                case 'h':
                    return HEAVY;
                case 't':
                    return CAPTAIN;
                case 'b':
                    return BOY;
                default:
                    return NONE;
            }
        }

        static boolean isOf(int kind, int other) {
            return kind == other || other == PLAYER
                || kind == CAPTAIN && other == WINGER
                || kind == BOY && other == KEEPER;
        }

        static int landing(int kind, int place, int strength, int rain) {
            if (isOf(kind, KEEPER)) {
                return NONE;
            }
            int further = 0;
            if (kind == WINGER) {
                further = strength;
            } else if (kind == CAPTAIN) {
                further = rain == 1 ? strength : strength / 2;
            } else if (kind == HEAVY && rain == 1) {
                further = -2;
            }
            return Math.max(0, Math.min(PLACE_MOST, place + further));
        }

        static int reach(int kind, int strength) {
            if (kind == BOY) {
                return strength / 3 + 1;
            }
            return kind == KEEPER ? strength / 3 : NONE;
        }
    }

    /** A row or a text: some ints (of a text: bytes), or missing. */
    private static final class Strip {
        boolean there;
        int size;
        final int[] items;

        Strip(int most) {
            items = new int[most];
        }

        void begin(int n, int filling) {
            there = true;
            size = n;
            Arrays.fill(items, filling);
        }

        int findingAt(int i) {
            if (!there) {
                return NOTHING;
            }
            return i < 0 || i >= size ? BEYOND : 0;
        }

        boolean holds(int i, int n) {
            return i >= 0 && i <= size && n <= size - i;
        }

        long sum() {
            long sum = 0L;
            for (int i = 0; i < size; i++) {
                sum += items[i];
            }
            return sum;
        }

        int findingOfPairs(int firstMost, int secondMost) {
            if (!there) {
                return NOTHING;
            }
            if (size > 2 * PAIRS_MOST || size % 2 != 0) {
                return SIZE;
            }
            for (int j = 0; j + 1 < size; j += 2) {
                if (!within(items[j], firstMost) || !within(items[j + 1], secondMost)) {
                    return UNLIKE;
                }
            }
            return 0;
        }

        long digestOnto(long before) {
            if (!there) {
                return 31L * before - 1L;
            }
            long h = 31L * before + size;
            for (int i = 0; i < size; i++) {
                h = 31L * h + items[i];
            }
            return h;
        }
    }

    /** Reads a republic from a text, up to the first fault. */
    private static final class Reader {
        private final Strip text;
        private int at;
        private int wrong = NONE;

        Reader(Strip from) {
            text = from;
        }

        /** The fault's place, or NONE; only with NONE is the republic whole. */
        int read(Republic into) {
            into.clear();
            readSchool(into);
            for (int k = 0; k < COATS; k++) {
                readCoat(into, k);
            }
            // One round beyond the most: a player too many is a fault, not a silent end.
            for (int i = 0; i <= PLAYERS_MOST; i++) {
                readPlayer(into, i);
            }
            return wrong;
        }

        private void readSchool(Republic into) {
            skipBlanks();
            letter('g');
            into.school = figure(0, 1);
        }

        private void readCoat(Republic into, int k) {
            skipBlanks();
            letter('c');
            boolean isUpper = (k & 1) == 1;
            into.coat[k] = twoFigures(isUpper ? into.coat[k - 1] + 1 : 0);
        }

        private void readPlayer(Republic into, int i) {
            skipBlanks();
            if (wrong != NONE || at >= text.size && i > 0) {
                return;
            }
            int kind = at < text.size ? Kinds.ofLetter(text.items[at]) : NONE;
            if (kind == NONE || i >= PLAYERS_MOST) {
                wrong = at;
                return;
            }
            at++;
            into.kind[i] = kind;
            into.side[i] = figure(0, 1);
            into.place[i] = twoFigures(0);
            into.strength[i] = figure(1, 9);
            into.players = i + 1;
        }

        private void skipBlanks() {
            while (at < text.size && text.items[at] == BLANK) {
                at++;
            }
        }

        private void letter(int sign) {
            if (wrong != NONE) {
                return;
            }
            if (at >= text.size || text.items[at] != sign) {
                wrong = at;
                return;
            }
            at++;
        }

        private int figure(int least, int most) {
            if (wrong != NONE) {
                return 0;
            }
            int value = at < text.size ? text.items[at] - '0' : NONE;
            if (value < least || value > most) {
                wrong = at;
                return 0;
            }
            at++;
            return value;
        }

        private int twoFigures(int least) {
            int start = at;
            int value = 10 * figure(0, 9) + figure(0, 9);
            if (wrong == NONE && (value < least || value > PLACE_MOST)) {
                wrong = start;
            }
            return value;
        }
    }

    /** A republic as it is, with its deeds; without players it counts as missing. */
    private static final class Republic {
        static final int TERM = 0, NUDGE = 1, WEATHER = 2, STAND = 3;

        int school;
        int players;
        int terms;
        int wet;
        int deeds;
        final int[] coat = new int[COATS];
        final int[] goals = new int[2];
        final int[] kind = new int[PLAYERS_MOST];
        final int[] side = new int[PLAYERS_MOST];
        final int[] place = new int[PLAYERS_MOST];
        final int[] strength = new int[PLAYERS_MOST];
        // Of each deed just what undoing it needs: of a term who scored, else whose what was.
        final int[] deedSort = new int[DEEDS_MOST];
        final int[] deedOf = new int[DEEDS_MOST];
        final int[] deedWas = new int[DEEDS_MOST];

        void clear() {
            school = 0;
            players = 0;
            terms = 0;
            wet = 0;
            deeds = 0;
            Arrays.fill(coat, 0);
            Arrays.fill(goals, 0);
        }

        void take(Republic other) {
            school = other.school;
            players = other.players;
            terms = other.terms;
            wet = other.wet;
            deeds = other.deeds;
            System.arraycopy(other.coat, 0, coat, 0, COATS);
            System.arraycopy(other.goals, 0, goals, 0, 2);
            System.arraycopy(other.kind, 0, kind, 0, PLAYERS_MOST);
            System.arraycopy(other.side, 0, side, 0, PLAYERS_MOST);
            System.arraycopy(other.place, 0, place, 0, PLAYERS_MOST);
            System.arraycopy(other.strength, 0, strength, 0, PLAYERS_MOST);
            System.arraycopy(other.deedSort, 0, deedSort, 0, DEEDS_MOST);
            System.arraycopy(other.deedOf, 0, deedOf, 0, DEEDS_MOST);
            System.arraycopy(other.deedWas, 0, deedWas, 0, DEEDS_MOST);
        }

        boolean hasPlayer(int i) {
            return i >= 0 && i < players;
        }

        int landingFrom(int i, int from, int rain) {
            return Kinds.landing(kind[i], from, strength[i], rain);
        }

        int landing(int i) {
            return Kinds.landing(kind[i], place[i], strength[i], wet);
        }

        /** Where a ball lands, so much further, as a bit; 0, if there is no ball. */
        int ballBit(int i, int further) {
            int lands = landing(i);
            return lands < 0 ? 0 : 1 << Math.min(PLACE_MOST, lands + further);
        }

        int reached(int i) {
            int reach = Kinds.reach(kind[i], strength[i]);
            if (reach == NONE) {
                return 0;
            }
            return span(Math.max(0, place[i] - reach), Math.min(PLACE_MOST, place[i] + reach));
        }

        /** Places of an end that no keeper reaches. */
        int openPlaces(int end) {
            int open = ALL_PLACES;
            for (int i = 0; i < players; i++) {
                if (side[i] == end) {
                    open &= ~reached(i);
                }
            }
            return open;
        }

        int inPlaces(int end) {
            return between(school, coat[2 * end], coat[2 * end + 1]) & openPlaces(end);
        }

        int ballsOf(int ofSide, int places) {
            int many = 0;
            for (int i = 0; i < players; i++) {
                if (side[i] == ofSide && (ballBit(i, 0) & places) != 0) {
                    many++;
                }
            }
            return many;
        }

        /** Whose balls are in, if those of some (bits) land 1 further. */
        int scorers(int wide) {
            int inAtEnd0 = inPlaces(0);
            int inAtEnd1 = inPlaces(1);
            int who = 0;
            for (int i = 0; i < players; i++) {
                int in = side[i] == 0 ? inAtEnd1 : inAtEnd0;
                if ((ballBit(i, (wide >> i) & 1) & in) != 0) {
                    who |= 1 << i;
                }
            }
            return who;
        }

        int membersOf(int ofSide) {
            int members = 0;
            for (int i = 0; i < players; i++) {
                if (side[i] == ofSide) {
                    members |= 1 << i;
                }
            }
            return members;
        }

        /** How many goals more a side has in a term than the other one, so many balls wide. */
        int advantage(int ofSide, int wide) {
            int who = scorers(wide);
            int own = membersOf(ofSide);
            return Integer.bitCount(who & own) - Integer.bitCount(who & ~own);
        }

        int witnesses(int k) {
            int who = 0;
            for (int i = 0; i < players; i++) {
                if (side[i] == k / 2 && Math.abs(place[i] - coat[k]) <= SIGHT) {
                    who |= 1 << i;
                }
            }
            return who;
        }

        int strengthOf(int set) {
            int sum = 0;
            for (int i = 0; i < players; i++) {
                if (((set >> i) & 1) == 1) {
                    sum += strength[i];
                }
            }
            return sum;
        }

        int fact(int i, int what) {
            switch (what) {
                case 0:
                    return kind[i];
                case 1:
                    return side[i];
                case 2:
                    return place[i];
                case 3:
                    return strength[i];
                case 4:
                    return landing(i);
                case 5:
                    return (ballBit(i, 0) & inPlaces(1 - side[i])) != 0 ? 1 : 0;
                default:
                    return Kinds.reach(kind[i], strength[i]);
            }
        }

        int number(int what) {
            switch (what) {
                case 0:
                    return players;
                case 1:
                    return school;
                case 2:
                    return terms;
                case 3:
                    return deeds;
                case 4:
                    return wet;
                case 9:
                case 10:
                    return goals[what - 9];
                case 11:
                    return manyOf(Kinds.WINGER);
                case 12:
                    return manyOf(Kinds.KEEPER);
                default:
                    return what >= 5 && what <= 8 ? coat[what - 5] : 0;
            }
        }

        private int manyOf(int ofKind) {
            int many = 0;
            for (int i = 0; i < players; i++) {
                if (Kinds.isOf(kind[i], ofKind)) {
                    many++;
                }
            }
            return many;
        }

        void endTerm(int who) {
            note(TERM, 0, who);
            addGoals(who, 1);
            terms++;
        }

        void moveCoat(int k, int n) {
            note(NUDGE, k, coat[k]);
            coat[k] += n;
        }

        void turnWeather(int is) {
            note(WEATHER, 0, wet);
            wet = is;
        }

        void send(int i, int to) {
            note(STAND, i, place[i]);
            place[i] = to;
        }

        /** Undoes deeds from one on, the latest first. */
        int takeBack(int from) {
            int many = deeds - from;
            for (int d = deeds - 1; d >= from; d--) {
                takeBackOne(deedSort[d], deedOf[d], deedWas[d]);
            }
            deeds = from;
            return many;
        }

        private void takeBackOne(int sort, int of, int was) {
            switch (sort) {
                case TERM:
                    addGoals(was, -1);
                    terms--;
                    break;
                case NUDGE:
                    coat[of] = was;
                    break;
                case WEATHER:
                    wet = was;
                    break;
                default:
                    place[of] = was;
                    break;
            }
        }

        private void addGoals(int who, int times) {
            goals[0] += times * Integer.bitCount(who & membersOf(0));
            goals[1] += times * Integer.bitCount(who & membersOf(1));
        }

        private void note(int sort, int of, int was) {
            if (deeds < DEEDS_MOST) {
                deedSort[deeds] = sort;
                deedOf[deeds] = of;
                deedWas[deeds] = was;
                deeds++;
            }
        }
    }

    /** What stays while coats alone are moved, worked out once for the many ways to move them. */
    private static final class Balls {
        private int school;
        private int many;
        private final int[] end = new int[PLAYERS_MOST];
        private final int[] bit = new int[PLAYERS_MOST];
        private final int[] open = new int[2];

        void take(Republic from) {
            school = from.school;
            many = from.players;
            open[0] = from.openPlaces(0);
            open[1] = from.openPlaces(1);
            for (int i = 0; i < many; i++) {
                end[i] = 1 - from.side[i];
                bit[i] = from.ballBit(i, 0);
            }
        }

        int goalsAt(int atEnd, int low, int high) {
            int in = between(school, low, high) & open[atEnd];
            int scored = 0;
            for (int i = 0; i < many; i++) {
                if (end[i] == atEnd && (bit[i] & in) != 0) {
                    scored++;
                }
            }
            return scored;
        }
    }

    /** The fewest steps by which coats are moved unseen so that a side leads. */
    private static final class Amendment {
        private static final int WAYS = 2 * OFF_MOST + 1, MOVES = WAYS * WAYS;

        // Of each end, by how both its coats are moved, the goals there; -1, if it may not be.
        private final int[] scored = new int[2 * MOVES];
        private int bestLow;
        private int bestHigh;

        void weigh(Republic now, Balls balls) {
            for (int end = 0; end <= 1; end++) {
                for (int move = 0; move < MOVES; move++) {
                    scored[end * MOVES + move] = goalsBy(now, balls, end, move);
                }
            }
        }

        private static int goalsBy(Republic now, Balls balls, int end, int move) {
            int k = 2 * end;
            int low = now.coat[k] + first(move);
            int high = now.coat[k + 1] + second(move);
            boolean isSeen = first(move) != 0 && now.witnesses(k) != 0
                || second(move) != 0 && now.witnesses(k + 1) != 0;
            if (isSeen || low < 0 || high > PLACE_MOST || low >= high) {
                return -1;
            }
            return balls.goalsAt(end, low, high);
        }

        private static int first(int move) {
            return move / WAYS - OFF_MOST;
        }

        private static int second(int move) {
            return move % WAYS - OFF_MOST;
        }

        private static int stepsOf(int move) {
            return Math.abs(first(move)) + Math.abs(second(move));
        }

        /** Moves are tried with lesser ones ahead, so of like ones the first stays. */
        int fewest(int side, int v) {
            int best = NONE;
            for (int low = 0; low < MOVES; low++) {
                for (int high = 0; high < MOVES; high++) {
                    int steps = stepsOf(low) + stepsOf(high);
                    if ((best == NONE || steps < best) && leads(side, v, low, high)) {
                        best = steps;
                        bestLow = low;
                        bestHigh = high;
                    }
                }
            }
            return best;
        }

        private boolean leads(int side, int v, int low, int high) {
            int atEnd0 = scored[low];
            int atEnd1 = scored[MOVES + high];
            if (atEnd0 < 0 || atEnd1 < 0) {
                return false;
            }
            return (side == 0 ? atEnd1 - atEnd0 : atEnd0 - atEnd1) >= v;
        }

        void write(int[] row) {
            row[0] = first(bestLow);
            row[1] = second(bestLow);
            row[2] = first(bestHigh);
            row[3] = second(bestHigh);
        }
    }

    /** Two captains who nudge by turns, each looking through all that can come. */
    private static final class Duel {
        private static final int MOVES = 2 * COATS, BEYOND_ALL = GOALS_MOST + 1;

        private final int[] coat = new int[COATS];

        int outcome(Republic now, Balls balls, int turns) {
            System.arraycopy(now.coat, 0, coat, 0, COATS);
            return best(balls, coat, Math.min(turns, 2 * TURNS_MOST), 0, -BEYOND_ALL, BEYOND_ALL);
        }

        /** What comes of it, if that is above the floor and below the roof; else one of them. */
        private static int best(Balls balls, int[] coat, int turns, int turn, int floor, int roof) {
            if (turn >= turns) {
                return balls.goalsAt(1, coat[2], coat[3]) - balls.goalsAt(0, coat[0], coat[1]);
            }
            boolean wantsMuch = turn % 2 == 0;
            int low = floor;
            int high = roof;
            for (int move = 0; move <= MOVES && low < high; move++) {
                // The last move is to nudge none.
                int k = move < MOVES ? move / 2 : 0;
                int n = move < MOVES ? move % 2 * 2 - 1 : 0;
                if (n == 0 || mayMove(coat, k, n)) {
                    coat[k] += n;
                    int comes = best(balls, coat, turns, turn + 1, low, high);
                    coat[k] -= n;
                    low = wantsMuch ? Math.max(low, comes) : low;
                    high = wantsMuch ? high : Math.min(high, comes);
                }
            }
            return wantsMuch ? low : high;
        }
    }

    /** The pairs of places that the coats of an end can be at, by balls that were in or not. */
    private static final class Guesses {
        int pairs;
        int first;
        private final int[] inWith = new int[PLACE_MOST + 1];

        void weigh(Republic now, int end, Strip evidence) {
            pairs = 0;
            first = NONE;
            Arrays.fill(inWith, 0);
            int open = now.openPlaces(end);
            for (int low = 0; low < PLACE_MOST; low++) {
                for (int high = low + 1; high <= PLACE_MOST; high++) {
                    int in = between(now.school, low, high) & open;
                    if (fits(in, evidence)) {
                        addPair(low, high, in);
                    }
                }
            }
        }

        private static boolean fits(int in, Strip evidence) {
            for (int j = 0; j + 1 < evidence.size; j += 2) {
                if (((in >> evidence.items[j]) & 1) != evidence.items[j + 1]) {
                    return false;
                }
            }
            return true;
        }

        private void addPair(int low, int high, int in) {
            if (pairs == 0) {
                first = 32 * low + high;
            }
            pairs++;
            for (int p = 0; p <= PLACE_MOST; p++) {
                inWith[p] += (in >> p) & 1;
            }
        }

        /** Places (bits) at which a ball is in with just so many of the pairs. */
        int placesInWith(int many) {
            int places = 0;
            for (int p = 0; p <= PLACE_MOST; p++) {
                if (inWith[p] == many) {
                    places |= 1 << p;
                }
            }
            return places;
        }

        int greaterPart(int place) {
            return Math.max(inWith[place], pairs - inWith[place]);
        }

        int tellingPlace() {
            int best = 0;
            for (int p = 1; p <= PLACE_MOST; p++) {
                if (greaterPart(p) < greaterPart(best)) {
                    best = p;
                }
            }
            return best;
        }
    }
}
