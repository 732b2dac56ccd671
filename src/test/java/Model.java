import java.math.BigInteger;
import java.util.ArrayList;
import java.util.Arrays;
import java.util.List;
import java.util.regex.Pattern;

/**
 * The document once more, written apart from the program and in other ways (snapshots for undoing,
 * patterns for reading, plain trial for all searches), for runs by chance to be compared with.
 */
final class Model {
    private static final int BAD = -1, FULL = -2, FINDING = -3, STATE = -4, NONE = -9;
    private static final String LETTERS = "pwkhtb";

    /** One who plays. */
    private static final class One {
        int kind;
        int side;
        int place;
        int strength;

        One(int kind, int side, int place, int strength) {
            this.kind = kind;
            this.side = side;
            this.place = place;
            this.strength = strength;
        }

        One moved(int to) {
            return new One(kind, side, to, strength);
        }
    }

    /** A republic that never changes: deeds make new ones. */
    private static final class State {
        final int school;
        final int term;
        final int rain;
        final int[] coats;
        final int[] goals;
        final List<One> ones;

        State(int school, int term, int rain, int[] coats, int[] goals, List<One> ones) {
            this.school = school;
            this.term = term;
            this.rain = rain;
            this.coats = coats;
            this.goals = goals;
            this.ones = ones;
        }
    }

    private final int[][] rows = new int[6][];
    private final byte[][] texts = new byte[4][];
    /** The republic ahead of each deed, and last as it is now. */
    private List<State> history = new ArrayList<>(List.of(
        new State(0, 0, 0, new int[4], new int[2], List.of())));
    private final List<List<State>> kept = new ArrayList<>(Arrays.asList(null, null, null));
    private int asked = 0;
    private BigInteger upper = BigInteger.ZERO;
    private BigInteger lower = BigInteger.ONE;
    private int finding = 0;
    private final int[] findings = new int[6];

    private State now() {
        return history.get(history.size() - 1);
    }

    private int found(int f) {
        finding = f;
        findings[f]++;
        return FINDING;
    }

    private int told(int v) {
        asked = v;
        return 1;
    }

    private void fraction(BigInteger up, BigInteger low) {
        BigInteger g = up.gcd(low);
        upper = up.divide(g);
        lower = low.divide(g);
    }

    int row(int r, int n) {
        if (r < 0 || r > 5 || n > 40) return BAD;
        if (n < 0) return found(5);
        rows[r] = new int[n];
        return n;
    }

    int lay(int r, int i, int v) {
        int was = at(r, i);
        if (was == 1) rows[r][i] = v;
        return was;
    }

    int at(int r, int i) {
        if (r < 0 || r > 5) return BAD;
        if (rows[r] == null) return found(1);
        if (i < 0 || i >= rows[r].length) return found(2);
        return told(rows[r][i]);
    }

    int tear(int r) {
        if (r < 0 || r > 5) return BAD;
        if (rows[r] == null) return found(1);
        rows[r] = null;
        return 1;
    }

    int copy(int r, int i, int to, int j, int n) {
        if (r < 0 || r > 5 || to < 0 || to > 5) return BAD;
        if (n < 0) return found(5);
        if (rows[r] == null || rows[to] == null) return found(1);
        if (i < 0 || j < 0 || (long) i + n > rows[r].length || (long) j + n > rows[to].length) return found(2);
        int[] taken = Arrays.copyOfRange(rows[r], i, i + n);
        for (int m = 0; m < n; m++) rows[to][j + m] = taken[m];
        return 1;
    }

    int mean(int r) {
        if (r < 0 || r > 5) return BAD;
        if (rows[r] == null) return found(1);
        if (rows[r].length == 0) return found(4);
        BigInteger sum = BigInteger.ZERO;
        for (int v : rows[r]) sum = sum.add(BigInteger.valueOf(v));
        return told(sum.divide(BigInteger.valueOf(rows[r].length)).intValueExact());
    }

    int text(int t, int n) {
        if (t < 0 || t > 3 || n > 60) return BAD;
        if (n < 0) return found(5);
        texts[t] = new byte[n];
        Arrays.fill(texts[t], (byte) ' ');
        return n;
    }

    int put(int t, int i, int v) {
        if (t < 0 || t > 3) return BAD;
        if (texts[t] == null) return found(1);
        if (i < 0 || i >= texts[t].length) return found(2);
        int was = texts[t][i];
        texts[t][i] = (byte) v;
        return was + 1000;
    }

    private static String string(byte[] text) {
        StringBuilder s = new StringBuilder();
        for (byte b : text) s.append((char) (b & 255));
        return s.toString();
    }

    private static final String[] ITEMS = {"g[01]", "c[0-9][0-9]", "c[0-9][0-9]", "c[0-9][0-9]", "c[0-9][0-9]",
        "[pwkhtb][01][0-9][0-9][1-9]"};

    /** Item by item: each is matched whole, or the longest beginning of it tells the fault. */
    private static int faultOf(String s) {
        int at = 0;
        int[] coats = new int[4];
        for (int item = 0; ; item++) {
            while (at < s.length() && s.charAt(at) == ' ') at++;
            if (at == s.length()) return item > 5 ? NONE : at;
            if (item > 10) return at;
            Pattern pattern = Pattern.compile(ITEMS[Math.min(item, 5)]);
            int size = item == 0 ? 2 : item < 5 ? 3 : 5;
            int two = item == 0 ? 99 : item < 5 ? 1 : 2;
            for (int n = 1; n <= size; n++) {
                boolean isThere = at + n <= s.length();
                java.util.regex.Matcher m = pattern.matcher(isThere ? s.substring(at, at + n) : s.substring(at));
                if (!isThere) return s.length();
                if (!m.matches() && !m.hitEnd()) return at + n - 1;
                if (n == two + 2) {
                    int place = Integer.parseInt(s.substring(at + two, at + two + 2));
                    if (place > 20) return at + two;
                    if (item < 5) {
                        coats[item - 1] = place;
                        if (item % 2 == 0 && place <= coats[item - 2]) return at + two;
                    }
                }
            }
            at += size;
        }
    }

    int fault(int t) {
        if (t < 0 || t > 3) return BAD;
        if (texts[t] == null) return found(1);
        return faultOf(string(texts[t]));
    }

    int republic(int t) {
        if (t < 0 || t > 3) return BAD;
        if (texts[t] == null) return found(1);
        String s = string(texts[t]);
        if (faultOf(s) != NONE) return STATE;
        s = s.replace(" ", "");
        int[] coats = new int[4];
        for (int k = 0; k < 4; k++) coats[k] = Integer.parseInt(s.substring(3 + 3 * k, 5 + 3 * k));
        List<One> ones = new ArrayList<>();
        for (int at = 14; at < s.length(); at += 5) {
            ones.add(new One(LETTERS.indexOf(s.charAt(at)), s.charAt(at + 1) - '0',
                Integer.parseInt(s.substring(at + 2, at + 4)), s.charAt(at + 4) - '0'));
        }
        history = new ArrayList<>();
        history.add(new State(s.charAt(1) - '0', 0, 0, coats, new int[2], ones));
        for (int k = 0; k < 3; k++) kept.set(k, null);
        return ones.size();
    }

    private static boolean keeps(One o) {
        return o.kind == 2 || o.kind == 5;
    }

    private static int lands(One o, int rain) {
        int at = o.place;
        switch (o.kind) {
            case 0: break;
            case 1: at += o.strength; break;
            case 3: at -= rain == 1 ? 2 : 0; break;
            case 4: at += rain == 1 ? o.strength : o.strength / 2; break;
            default: return NONE;
        }
        return at < 0 ? 0 : at > 20 ? 20 : at;
    }

    private static boolean reaches(One o, int place) {
        if (!keeps(o)) return false;
        int far = o.strength / 3 + (o.kind == 5 ? 1 : 0);
        return place >= o.place - far && place <= o.place + far;
    }

    private static boolean isIn(State s, int end, int place, int low, int high) {
        boolean between = place > low && place < high || s.school == 1 && (place == low || place == high);
        for (One o : s.ones) {
            if (o.side == end && reaches(o, place)) between = false;
        }
        return between;
    }

    private static boolean isIn(State s, int end, int place) {
        return isIn(s, end, place, s.coats[2 * end], s.coats[2 * end + 1]);
    }

    private static boolean scores(State s, One o, int further) {
        int at = lands(o, s.rain);
        return at != NONE && isIn(s, 1 - o.side, Math.min(20, at + further));
    }

    private static int difference(State s) {
        int d = 0;
        for (One o : s.ones) {
            if (scores(s, o, 0)) d += o.side == 0 ? 1 : -1;
        }
        return d;
    }

    private int fact(int i, int what) {
        State s = now();
        One o = s.ones.get(i);
        switch (what) {
            case 0: return o.kind;
            case 1: return o.side;
            case 2: return o.place;
            case 3: return o.strength;
            case 4: return lands(o, s.rain);
            case 5: return scores(s, o, 0) ? 1 : 0;
            default: return o.kind == 2 ? o.strength / 3 : o.kind == 5 ? o.strength / 3 + 1 : NONE;
        }
    }

    private boolean none(int i) {
        return i < 0 || i >= now().ones.size();
    }

    int player(int i, int what) {
        if (none(i) || what < 0 || what > 6) return BAD;
        return told(fact(i, what));
    }

    int mark(int i, int kind) {
        if (none(i) || kind < 1 || kind > 5) return BAD;
        State s = now();
        One o = s.ones.get(i);
        boolean is = o.kind == kind || o.kind == 4 && kind == 1 || o.kind == 5 && kind == 2;
        if (!is) return found(3);
        int many = 0;
        if (kind == 1) return lands(o, s.rain) - o.place;
        if (kind == 4) return Math.abs(lands(o, 0) - lands(o, 1));
        for (int p = 0; kind == 2 && p <= 20; p++) many += reaches(o, p) ? 1 : 0;
        for (One other : s.ones) {
            int at = lands(other, s.rain);
            if (kind == 3 && other.side == o.side && at == lands(o, s.rain)) many++;
            if (kind == 5 && other.side != o.side && at != NONE && reaches(o, at)) many++;
        }
        return many;
    }

    private int full() {
        return history.size() > 40 ? FULL : 0;
    }

    private void termDone() {
        State s = now();
        int[] goals = s.goals.clone();
        for (One o : s.ones) goals[o.side] += scores(s, o, 0) ? 1 : 0;
        history.add(new State(s.school, s.term + 1, s.rain, s.coats, goals, s.ones));
    }

    private static boolean legal(int[] c) {
        boolean fine = c[0] < c[1] && c[2] < c[3];
        for (int p : c) fine &= p >= 0 && p <= 20;
        return fine;
    }

    private static int[] moved(int[] coats, int k, int n) {
        int[] c = coats.clone();
        c[k] += n;
        return c;
    }

    private static State withCoats(State s, int[] coats) {
        return new State(s.school, s.term, s.rain, coats, s.goals, s.ones);
    }

    private static State withRain(State s, int rain) {
        return new State(s.school, s.term, rain, s.coats, s.goals, s.ones);
    }

    private static State withPlace(State s, int i, int place) {
        List<One> ones = new ArrayList<>(s.ones);
        ones.set(i, ones.get(i).moved(place));
        return new State(s.school, s.term, s.rain, s.coats, s.goals, ones);
    }

    int term() {
        if (now().ones.isEmpty()) return STATE;
        if (full() != 0) return FULL;
        int bits = 0;
        for (int i = 0; i < now().ones.size(); i++) bits |= scores(now(), now().ones.get(i), 0) ? 1 << i : 0;
        termDone();
        return bits;
    }

    private static int seers(State s, int k) {
        int bits = 0;
        for (int i = 0; i < s.ones.size(); i++) {
            One o = s.ones.get(i);
            int off = o.place - s.coats[k];
            if (o.side == (k < 2 ? 0 : 1) && off >= -3 && off <= 3) bits += 1 << i;
        }
        return bits;
    }

    int nudge(int k, int n) {
        if (k < 0 || k > 3 || n < -3 || n > 3 || n == 0) return BAD;
        if (now().ones.isEmpty() || !legal(moved(now().coats, k, n))) return STATE;
        if (full() != 0) return FULL;
        int bits = seers(now(), k);
        history.add(withCoats(now(), moved(now().coats, k, n)));
        return bits;
    }

    int rain(int is) {
        if (is != 0 && is != 1) return BAD;
        if (now().ones.isEmpty() || now().rain == is) return STATE;
        if (full() != 0) return FULL;
        history.add(withRain(now(), is));
        return is;
    }

    int stand(int i, int place) {
        if (none(i) || place < 0 || place > 20) return BAD;
        int was = now().ones.get(i).place;
        if (was == place) return STATE;
        if (full() != 0) return FULL;
        history.add(withPlace(now(), i, place));
        return was;
    }

    int undo(int n) {
        if (n < 0 || n > history.size() - 1) return BAD;
        int many = history.size() - 1 - n;
        history = new ArrayList<>(history.subList(0, n + 1));
        return many;
    }

    int keep(int k) {
        if (k < 0 || k > 2) return BAD;
        if (now().ones.isEmpty()) return STATE;
        kept.set(k, new ArrayList<>(history));
        return history.size() - 1;
    }

    int on(int k) {
        if (k < 0 || k > 2) return BAD;
        if (kept.get(k) == null) return found(1);
        history = new ArrayList<>(kept.get(k));
        return history.size() - 1;
    }

    int lands(int i, int place, int rain) {
        if (none(i) || place < 0 || place > 20 || rain < 0 || rain > 1) return BAD;
        return lands(now().ones.get(i).moved(place), rain);
    }

    int in(int end, int place) {
        if (end < 0 || end > 1 || place < 0 || place > 20) return BAD;
        if (now().ones.isEmpty()) return STATE;
        return isIn(now(), end, place) ? 1 : 0;
    }

    int seen(int k) {
        if (k < 0 || k > 3) return BAD;
        return now().ones.isEmpty() ? STATE : seers(now(), k);
    }

    int lead(int n) {
        if (n < 0 || n > 40) return BAD;
        if (now().ones.isEmpty()) return STATE;
        return told(now().goals[0] - now().goals[1] + n * difference(now()));
    }

    int amend(int side, int v, int r) {
        if (side < 0 || side > 1 || v < 0 || v > 6 || r < 0 || r > 5) return BAD;
        State s = now();
        if (s.ones.isEmpty()) return STATE;
        // By steps from few to many, and for each all rows in order: the first that does is the one.
        for (int steps = 0; steps <= 12; steps++) {
            for (int code = 0; code < 2401; code++) {
                int[] off = {code / 343 - 3, code / 49 % 7 - 3, code / 7 % 7 - 3, code % 7 - 3};
                int sum = 0;
                boolean unseen = true;
                int[] c = s.coats.clone();
                for (int k = 0; k < 4; k++) {
                    sum += Math.abs(off[k]);
                    unseen &= off[k] == 0 || seers(s, k) == 0;
                    c[k] += off[k];
                }
                if (sum != steps || !unseen || !legal(c)) continue;
                int d = difference(withCoats(s, c));
                if ((side == 0 ? d : -d) >= v) {
                    rows[r] = off;
                    return steps;
                }
            }
        }
        return NONE;
    }

    private int pairsOf(int r, int most0, int most1) {
        if (rows[r] == null) return found(1);
        int[] p = rows[r];
        if (p.length % 2 == 1 || p.length / 2 > 8) return found(5);
        for (int j = 0; j < p.length; j++) {
            if (p[j] < 0 || p[j] > (j % 2 == 0 ? most0 : most1)) return found(3);
        }
        return 0;
    }

    private int guessRefused(int end, int r) {
        if (end < 0 || end > 1 || r < 0 || r > 5) return BAD;
        if (now().ones.isEmpty()) return STATE;
        return pairsOf(r, 20, 1);
    }

    private List<int[]> guesses(int end, int r) {
        List<int[]> all = new ArrayList<>();
        for (int a = 0; a <= 20; a++) {
            for (int b = a + 1; b <= 20; b++) {
                boolean fits = true;
                for (int j = 0; j < rows[r].length; j += 2) {
                    fits &= isIn(now(), end, rows[r][j], a, b) == (rows[r][j + 1] == 1);
                }
                if (fits) all.add(new int[] {a, b});
            }
        }
        return all;
    }

    private int inWith(List<int[]> guesses, int end, int place) {
        int many = 0;
        for (int[] g : guesses) many += isIn(now(), end, place, g[0], g[1]) ? 1 : 0;
        return many;
    }

    int coats(int end, int r) {
        int refused = guessRefused(end, r);
        if (refused != 0) return refused;
        List<int[]> g = guesses(end, r);
        fraction(BigInteger.valueOf(g.size()), BigInteger.ONE);
        return told(g.isEmpty() ? NONE : 32 * g.get(0)[0] + g.get(0)[1]);
    }

    int sure(int end, int r) {
        int refused = guessRefused(end, r);
        if (refused != 0) return refused;
        List<int[]> g = guesses(end, r);
        int all = 0;
        int no = 0;
        for (int p = 0; p <= 20; p++) {
            int many = inWith(g, end, p);
            if (g.isEmpty() || many == g.size()) all |= 1 << p;
            if (g.isEmpty() || many == 0) no |= 1 << p;
        }
        told(no);
        return all;
    }

    int next(int end, int r) {
        int refused = guessRefused(end, r);
        if (refused != 0) return refused;
        List<int[]> g = guesses(end, r);
        if (g.isEmpty()) return NONE;
        int best = -1;
        int least = Integer.MAX_VALUE;
        for (int p = 20; p >= 0; p--) {
            int many = inWith(g, end, p);
            int part = Math.max(many, g.size() - many);
            if (part <= least) {
                least = part;
                best = p;
            }
        }
        told(least);
        return best;
    }

    private int traceRefused(int i, int r) {
        if (none(i) || r < 0 || r > 5) return BAD;
        return pairsOf(r, 1, 20);
    }

    private boolean landed(One o, int r) {
        boolean fits = true;
        for (int j = 0; j < rows[r].length; j += 2) fits &= lands(o, rows[r][j]) == rows[r][j + 1];
        return fits;
    }

    int stood(int i, int r) {
        int refused = traceRefused(i, r);
        if (refused != 0) return refused;
        int bits = 0;
        for (int p = 0; p <= 20; p++) bits |= landed(now().ones.get(i).moved(p), r) ? 1 << p : 0;
        return bits;
    }

    int kinds(int i, int r) {
        int refused = traceRefused(i, r);
        if (refused != 0) return refused;
        One o = now().ones.get(i);
        int bits = 0;
        for (int k = 0; k <= 5; k++) bits |= landed(new One(k, o.side, o.place, o.strength), r) ? 1 << k : 0;
        return bits;
    }

    private List<Integer> setsOf(int v) {
        List<Integer> all = new ArrayList<>();
        for (int set = 0; set < 1 << now().ones.size(); set++) {
            int sum = 0;
            for (int i = 0; i < now().ones.size(); i++) sum += (set & 1 << i) != 0 ? now().ones.get(i).strength : 0;
            if (sum == v) all.add(set);
        }
        return all;
    }

    int sets(int v) {
        if (v < 0 || v > 54) return BAD;
        if (now().ones.isEmpty()) return STATE;
        List<Integer> all = setsOf(v);
        fraction(BigInteger.valueOf(all.size()), BigInteger.ONE);
        return told(all.isEmpty() ? NONE : all.get(0));
    }

    int surely(int v) {
        if (v < 0 || v > 54) return BAD;
        if (now().ones.isEmpty()) return STATE;
        List<Integer> all = setsOf(v);
        if (all.isEmpty()) return found(4);
        int each = 0;
        int no = 0;
        for (int i = 0; i < now().ones.size(); i++) {
            int many = 0;
            for (int set : all) many += set >> i & 1;
            each |= many == all.size() ? 1 << i : 0;
            no |= many == 0 ? 1 << i : 0;
        }
        told(no);
        return each;
    }

    private static int played(State s, int turn, int turns) {
        if (turn == turns) return difference(s);
        List<Integer> values = new ArrayList<>();
        values.add(played(s, turn + 1, turns));
        for (int k = 0; k < 4; k++) {
            for (int n = -1; n <= 1; n += 2) {
                int[] c = moved(s.coats, k, n);
                if (legal(c)) values.add(played(withCoats(s, c), turn + 1, turns));
            }
        }
        values.sort(null);
        return turn % 2 == 0 ? values.get(values.size() - 1) : values.get(0);
    }

    int duel(int n) {
        if (n < 0 || n > 2) return BAD;
        if (now().ones.isEmpty()) return STATE;
        return told(played(now(), 0, 2 * n));
    }

    int odds(int side, int p) {
        if (side < 0 || side > 1 || p < 0 || p > 12) return BAD;
        State s = now();
        if (s.ones.isEmpty()) return STATE;
        // By how much SIDE 0 leads, one ball behind the other.
        BigInteger[] chance = new BigInteger[13];
        Arrays.fill(chance, BigInteger.ZERO);
        chance[6] = BigInteger.ONE;
        BigInteger all = BigInteger.ONE;
        for (One o : s.ones) {
            BigInteger[] then = new BigInteger[13];
            Arrays.fill(then, BigInteger.ZERO);
            all = all.multiply(BigInteger.valueOf(12));
            for (int d = 0; d <= 12; d++) {
                for (int further = 0; further <= 1; further++) {
                    int to = d + (scores(s, o, further) ? o.side == 0 ? 1 : -1 : 0);
                    if (to < 0 || to > 12) continue;
                    then[to] = then[to].add(chance[d].multiply(BigInteger.valueOf(further == 1 ? p : 12 - p)));
                }
            }
            chance = then;
        }
        BigInteger ahead = BigInteger.ZERO;
        for (int d = 1; d <= 6; d++) ahead = ahead.add(chance[side == 0 ? 6 + d : 6 - d]);
        fraction(ahead, all);
        return 1;
    }

    int mid(int p) {
        if (p < 0 || p > 12) return BAD;
        if (now().ones.isEmpty()) return STATE;
        int sum = 0;
        for (One o : now().ones) {
            sum += scores(now(), o, 0) ? 12 - p : 0;
            sum += scores(now(), o, 1) ? p : 0;
        }
        fraction(BigInteger.valueOf(sum), BigInteger.valueOf(12));
        return 1;
    }

    int lots(int n, int seed) {
        if (n < 1 || n > 20 || seed < 1 || seed > 2147483646) return BAD;
        if (now().ones.isEmpty()) return STATE;
        if (history.size() - 1 + n > 40) return FULL;
        BigInteger lot = BigInteger.valueOf(seed);
        for (int d = 0; d < n; d++) {
            lot = lot.multiply(BigInteger.valueOf(48271)).mod(BigInteger.valueOf(2147483647));
            int x = lot.intValueExact();
            switch ((x >> 3) & 7) {
                case 0: case 1: case 2: termDone(); break;
                case 3: case 4: {
                    int[] c = moved(now().coats, (x >> 6) & 3, ((x >> 3) & 7) == 3 ? -1 : 1);
                    history.add(legal(c) ? withCoats(now(), c) : withCoats(now(), now().coats));
                    break;
                }
                case 5: history.add(withRain(now(), 1 - now().rain)); break;
                default: history.add(withPlace(now(), x % now().ones.size(), (x >> 6) % 21)); break;
            }
        }
        return now().goals[0] + now().goals[1];
    }

    int asked() {
        return asked;
    }

    long upper() {
        return upper.longValueExact();
    }

    long lower() {
        return lower.longValueExact();
    }

    int count(int what) {
        State s = now();
        int[] many = new int[16];
        many[0] = s.ones.size();
        many[1] = s.school;
        many[2] = s.term;
        many[3] = history.size() - 1;
        many[4] = s.rain;
        for (int k = 0; k < 4; k++) many[5 + k] = s.coats[k];
        many[9] = s.goals[0];
        many[10] = s.goals[1];
        for (One o : s.ones) {
            if (o.kind == 1 || o.kind == 4) many[11]++;
            if (keeps(o)) many[12]++;
        }
        for (int[] row : rows) many[13] += row == null ? 0 : 1;
        for (byte[] text : texts) many[14] += text == null ? 0 : 1;
        for (List<State> k : kept) many[15] += k == null ? 0 : 1;
        return what < 0 || what > 15 ? BAD : many[what];
    }

    int finding() {
        return finding;
    }

    int findings(int f) {
        return f < 1 || f > 5 ? BAD : findings[f];
    }

    long digest() {
        List<Integer> all = new ArrayList<>();
        for (int what = 0; what <= 15; what++) all.add(count(what));
        for (int i = 0; i < now().ones.size(); i++) {
            for (int what = 0; what <= 6; what++) all.add(fact(i, what));
        }
        for (List<State> k : kept) all.add(k == null ? -1 : k.size() - 1);
        for (int[] row : rows) {
            all.add(row == null ? -1 : row.length);
            for (int j = 0; row != null && j < row.length; j++) all.add(row[j]);
        }
        for (byte[] text : texts) {
            all.add(text == null ? -1 : text.length);
            for (int j = 0; text != null && j < text.length; j++) all.add((int) text[j]);
        }
        long h = 17;
        for (int v : all) h = 31 * h + v;
        return h;
    }
}
