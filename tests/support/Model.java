import java.math.BigInteger;
import java.util.ArrayList;
import java.util.Arrays;
import java.util.List;

/**
 * The document once more, written apart from the class: by trying all there is instead of counting cleverly.
 */
final class Model {
    static final long NO_ARGUMENT = Long.MIN_VALUE;
    static final long NO_STATE = Long.MIN_VALUE + 1;
    private static final long L1 = 1000000001L;

    /** Kind, figure, turned, fond of each. */
    static final class One {
        int kind;
        int figure;
        int turned;
        int[] fond = new int[7];

        One copy() {
            One c = new One();
            c.kind = kind;
            c.figure = figure;
            c.turned = turned;
            c.fond = fond.clone();
            return c;
        }
    }

    static final class State {
        List<One> all = new ArrayList<>();
        int limit;
        int day;

        State copy() {
            State c = new State();
            for (One one : all) {
                c.all.add(one.copy());
            }
            c.limit = limit;
            c.day = day;
            return c;
        }
    }

    State s = new State();
    private State image;
    private final One[] shelfOne = new One[8];
    private final long[][] shelfRow = new long[8][];
    private final int[] shelfSort = new int[8];

    static int grows(int kind, int figure) {
        return new int[] {2, 1, 2 + figure / 3, 0, figure / 2, 1 + figure / 4, (2 + figure / 3) / 2, 3}[kind];
    }

    static int bears(int kind) {
        return new int[] {0, 1, 0, 9, -1, 2, 0, 3}[kind];
    }

    static int turns(int kind, int figure) {
        return new int[] {1, 1, 2, 3, 1, 1, 2 + figure / 3, 3}[kind];
    }

    static int shows(int kind, int f) {
        return kind == 2 ? f : kind == 6 ? f / 2 : 0;
    }

    static int price(int kind, int figure) {
        return new int[] {4, 3, 4 + figure, 1, 12, 3 + figure, 2 * (4 + figure), 5}[kind];
    }

    private boolean is(int p) {
        return 0 <= p && p < s.all.size();
    }

    private boolean two(int p, int q) {
        return is(p) && is(q) && p != q;
    }

    private int n() {
        return s.all.size();
    }

    private static int grows(One one) {
        return grows(one.kind, one.figure);
    }

    private static int turns(One one) {
        return turns(one.kind, one.figure);
    }

    private static boolean may(State t, int p, int q, int limit) {
        One one = t.all.get(p);
        return p != q && one.fond[q] <= bears(one.kind) + limit;
    }

    private boolean may(int p, int q) {
        return may(s, p, q, s.limit);
    }

    private static void fonder(State t, int p, int q) {
        One one = t.all.get(p);
        one.fond[q] = Math.min(9, one.fond[q] + grows(one));
    }

    private static void turning(State t, int p, int q) {
        One to = t.all.get(q);
        to.turned = Math.min(9, to.turned + turns(t.all.get(p)));
        fonder(t, p, q);
    }

    // ---- the town as told

    int town(int d) {
        if (d < 0 || d > 7) {
            return -1;
        }
        if (shelfOne[d] == null && shelfRow[d] == null) {
            return -11;
        }
        if (shelfRow[d] == null || shelfSort[d] != 0) {
            return -12;
        }
        StringBuilder text = new StringBuilder();
        for (long b : shelfRow[d]) {
            text.append((char) (b & 255));
        }
        return tell(text.toString());
    }

    private int tell(String text) {
        String form = "(p[0-9]{2};|f[0-9]{3};|s[0-9]{2};|t[0-9]{2};|l[0-9];|d[0-9]{2};)+";
        if (!text.matches(form)) {
            for (int k = 0; ; k++) {
                if (k == text.length() || !isPrefix(text.substring(0, k + 1))) {
                    return -1000 - k;
                }
            }
        }
        State before = s.copy();
        int place = 0;
        int statements = 0;
        for (String statement : text.split(";")) {
            if (!tellOne(statement)) {
                s = before;
                return -2000 - place;
            }
            place += statement.length() + 1;
            statements++;
        }
        return statements;
    }

    private static boolean isPrefix(String text) {
        String rest = text.replaceAll("\\G(p[0-9]{2};|f[0-9]{3};|s[0-9]{2};|t[0-9]{2};|l[0-9];|d[0-9]{2};)", "");
        return rest.matches("([pstd][0-9]{0,2}|f[0-9]{0,3}|l[0-9]?)?");
    }

    private boolean tellOne(String statement) {
        int a = statement.charAt(1) - '0';
        int b = statement.length() > 2 ? statement.charAt(2) - '0' : 0;
        switch (statement.charAt(0)) {
            case 'p':
                return a < 8 && come(a, b) >= 0;
            case 'f':
                return feels(a, b, statement.charAt(3) - '0') >= 0;
            case 's':
                return sees(a, b) >= 0;
            case 't':
                return turnsFor(a, b) >= 0;
            case 'l':
                return limit(a) >= 0;
            default:
                return days(10 * a + b) >= 0;
        }
    }

    private int come(int kind, int figure) {
        if (n() == 7) {
            return -2;
        }
        One one = new One();
        one.kind = kind;
        one.figure = figure;
        s.all.add(one);
        return n() - 1;
    }

    int person(int p, int what) {
        if (!is(p) || what < 0 || what > 5) {
            return -1;
        }
        One one = s.all.get(p);
        return new int[] {one.kind, one.figure, one.turned, grows(one), 10 + bears(one.kind), turns(one)}[what];
    }

    int fond(int p, int q) {
        return two(p, q) ? s.all.get(p).fond[q] : -1;
    }

    int comes(int d) {
        int refusal = noOne(d);
        return refusal != 0 ? refusal : come(shelfOne[d].kind, shelfOne[d].figure);
    }

    int feels(int p, int q, int v) {
        if (!two(p, q) || v < 0 || v > 9) {
            return -1;
        }
        int before = s.all.get(p).fond[q];
        s.all.get(p).fond[q] = v;
        return before;
    }

    int limit(int v) {
        if (v < 0 || v > 9) {
            return -1;
        }
        int before = s.limit;
        s.limit = v;
        return before;
    }

    int sees(int p, int q) {
        if (!two(p, q)) {
            return -1;
        }
        if (s.day + 1 > 999) {
            return -3;
        }
        s.day++;
        fonder(s, p, q);
        return fond(p, q);
    }

    int turnsFor(int p, int q) {
        if (!two(p, q)) {
            return -1;
        }
        if (!may(p, q) || s.all.get(q).turned == 9 || s.day + 1 > 999) {
            return -3;
        }
        s.day++;
        turning(s, p, q);
        return s.all.get(q).turned;
    }

    int days(int n) {
        if (n < 1 || n > 99) {
            return -1;
        }
        if (s.day + n > 999) {
            return -3;
        }
        s.day += n;
        return s.day;
    }

    // ---- who may

    private int fitBits(State t, int q, int limit) {
        int bits = 0;
        for (int p = 0; p < t.all.size(); p++) {
            bits += may(t, p, q, limit) ? 1 << p : 0;
        }
        return bits;
    }

    int fit(int q) {
        return is(q) ? fitBits(s, q, s.limit) : -1;
    }

    private int bestMany;
    private int[] best;

    /** All ways are tried in their order; only a better one takes the place of an earlier one. */
    private void tryAll(int q, int taken, int many, int[] by, int limit) {
        if (many + n() - q <= bestMany) {
            return;
        }
        if (q == n()) {
            bestMany = many;
            best = by.clone();
            return;
        }
        for (int p = 0; p < n(); p++) {
            if (may(s, p, q, limit) && (taken >> p & 1) == 0) {
                by[q] = p;
                tryAll(q + 1, taken | 1 << p, many + 1, by, limit);
            }
        }
        by[q] = 9;
        tryAll(q + 1, taken, many, by, limit);
    }

    private int most(int limit) {
        bestMany = -1;
        best = new int[0];
        tryAll(0, 0, 0, new int[7], limit);
        return bestMany;
    }

    int told(int i) {
        if (i != -1 && !is(i)) {
            return -1;
        }
        int many = most(s.limit);
        return i == -1 ? many : best[i];
    }

    int rings() {
        return rings(0, 0);
    }

    private int rings(int q, int taken) {
        if (q == n()) {
            return 1;
        }
        int ways = 0;
        for (int p = 0; p < n(); p++) {
            ways += may(p, q) && (taken >> p & 1) == 0 ? rings(q + 1, taken | 1 << p) : 0;
        }
        return ways;
    }

    int nobody() {
        int bits = 0;
        for (int q = 0; q < n(); q++) {
            bits += fit(q) == 0 ? 1 << q : 0;
        }
        return bits;
    }

    int swaps(int what) {
        if (what < 0 || what > 1) {
            return -1;
        }
        List<Integer> twos = new ArrayList<>();
        for (int k = 0; k < 77; k++) {
            int p = k / 10;
            int q = k % 10;
            if (p < q && two(p, q) && may(p, q) && may(q, p)) {
                twos.add(k);
            }
        }
        return what == 0 ? twos.size() : twos.isEmpty() ? -4 : twos.get(0);
    }

    int lasts(int p, int q) {
        if (!two(p, q)) {
            return -1;
        }
        State t = s.copy();
        int turnings = 0;
        while (turnings < 99 && may(t, p, q, t.limit)) {
            turning(t, p, q);
            turnings++;
        }
        return turnings;
    }

    private int fewest;

    private void tryTurnings(State t, int q, int from, int made) {
        if (made >= fewest) {
            return;
        }
        if (t.all.get(q).turned == 9) {
            fewest = made;
            return;
        }
        for (int p = from; p < n(); p++) {
            if (may(t, p, q, t.limit)) {
                State u = t.copy();
                turning(u, p, q);
                tryTurnings(u, q, p, made + 1);
            }
        }
    }

    int soonest(int q, int what) {
        if (!is(q) || what < 0 || what > 1) {
            return -1;
        }
        fewest = 10;
        tryTurnings(s, q, 0, 0);
        if (what == 0) {
            return fewest == 10 ? -4 : fewest;
        }
        int who = -4;
        for (int p = n() - 1; p >= 0; p--) {
            if (may(p, q) && (who == -4 || turns(s.all.get(p)) >= turns(s.all.get(who)))) {
                who = p;
            }
        }
        return fewest == 10 || fewest == 0 ? -4 : who;
    }

    int hide(int q) {
        if (!is(q)) {
            return -1;
        }
        State t = s.copy();
        int seeings = 0;
        while (fitBits(t, q, t.limit) != 0 && seeings < 1000) {
            fonder(t, Integer.numberOfTrailingZeros(fitBits(t, q, t.limit)), q);
            seeings++;
        }
        return seeings == 1000 ? -4 : seeings;
    }

    int keeps(int p, int q) {
        if (!two(p, q)) {
            return -1;
        }
        if (!may(p, q)) {
            return -3;
        }
        State t = s.copy();
        for (int seeings = 0; seeings < 99; seeings++) {
            fonder(t, p, q);
            if (!may(t, p, q, t.limit)) {
                return seeings;
            }
        }
        return 99;
    }

    int enough(int what) {
        if (what < 0 || what > 1) {
            return -1;
        }
        for (int limit = 0; limit < 10; limit++) {
            boolean each = true;
            for (int q = 0; q < n(); q++) {
                each &= fitBits(s, q, limit) != 0;
            }
            if (what == 0 ? most(limit) == n() : each) {
                return limit;
            }
        }
        return -4;
    }

    int loved(int what) {
        if (what < 0 || what > 1) {
            return -1;
        }
        int[] sums = new int[n()];
        for (One one : s.all) {
            for (int q = 0; q < n(); q++) {
                sums[q] += one.fond[q];
            }
        }
        int most = Arrays.stream(sums).max().orElse(-4);
        for (int q = 0; q < n(); q++) {
            if (sums[q] == most) {
                return what == 0 ? q : most;
            }
        }
        return -4;
    }

    int warmest() {
        for (int f = 9; f >= 0; f--) {
            for (int k = 0; k < 77; k++) {
                if (two(k / 10, k % 10) && fond(k / 10, k % 10) == f) {
                    return k;
                }
            }
        }
        return -4;
    }

    // ---- cards, strangers

    long orders(int q) {
        if (!is(q)) {
            return L1;
        }
        return new long[] {1, 1, 2, 6, 24, 120, 720, 5040, 40320, 362880}[9 - s.all.get(q).turned];
    }

    private static long part(BigInteger above, BigInteger below, int part) {
        BigInteger common = above.gcd(below);
        return (part == 0 ? above : below).divide(common).longValueExact();
    }

    long drawn(int p, int q, int part) {
        if (!two(p, q) || part < 0 || part > 1) {
            return L1;
        }
        int left = 9 - s.all.get(q).turned;
        int next = Math.min(left, turns(s.all.get(p)));
        return left == 0 ? part : part(BigInteger.valueOf(next), BigInteger.valueOf(left), part);
    }

    private static BigInteger came(int s, int n) {
        return BigInteger.TEN.pow(n).subtract(BigInteger.valueOf(10 - s).pow(n));
    }

    long await(int s, int n, int part) {
        if (s < 0 || s > 10 || n < 0 || n > 12 || part < 0 || part > 1) {
            return L1;
        }
        return part(came(s, n), BigInteger.TEN.pow(n), part);
    }

    int daysFor(int s) {
        if (s < 0 || s > 10) {
            return -1;
        }
        for (int n = 0; n < 13; n++) {
            if (came(s, n).add(came(s, n)).compareTo(BigInteger.TEN.pow(n)) >= 0) {
                return n;
            }
        }
        return -4;
    }

    int ask(int q) {
        if (!is(q)) {
            return -1;
        }
        if (s.all.get(q).turned == 9) {
            return -3;
        }
        int firstFit = -4;
        for (int p = 0; p < n(); p++) {
            if (may(p, q)) {
                if (s.all.get(p).fond[q] + grows(s.all.get(p)) <= bears(s.all.get(p).kind) + s.limit
                        || 9 <= bears(s.all.get(p).kind) + s.limit) {
                    return p;
                }
                firstFit = firstFit == -4 ? p : firstFit;
            }
        }
        return firstFit;
    }

    int game(int p, int q) {
        if (!two(p, q)) {
            return -1;
        }
        int[] pairs = {0, 1, 10, 11};
        for (int pair : pairs) {
            int a = pair / 10;
            int b = pair % 10;
            if ((a == 1 && !may(p, q)) || (b == 1 && !may(q, p))) {
                continue;
            }
            boolean oneCould = a == 1 || may(p, q);
            boolean otherCould = b == 1 || may(q, p);
            boolean oneStays = !oneCould || has(p, 1 - a, b) <= has(p, a, b);
            boolean otherStays = !otherCould || has(q, 1 - b, a) <= has(q, b, a);
            if (oneStays && otherStays) {
                return pair;
            }
        }
        return -4;
    }

    private int has(int p, int own, int other) {
        return (other == 1 ? 3 : 0) - (own == 1 ? grows(s.all.get(p)) : 0) + (own + other == 2 ? 2 : 0);
    }

    // ---- blushes, told turnings

    private int noNumbers(int d) {
        if (d < 0 || d > 7) {
            return -1;
        }
        if (shelfOne[d] == null && shelfRow[d] == null) {
            return -11;
        }
        return shelfRow[d] == null ? -12 : 0;
    }

    private int noOne(int d) {
        if (d < 0 || d > 7) {
            return -1;
        }
        if (shelfOne[d] == null && shelfRow[d] == null) {
            return -11;
        }
        return shelfOne[d] == null ? -12 : 0;
    }

    private long skipped(int d) {
        return new long[] {Byte.MIN_VALUE, Short.MIN_VALUE, Integer.MIN_VALUE}[shelfSort[d]];
    }

    private List<Integer> levels(int q, int d, int places) {
        List<Integer> levels = new ArrayList<>();
        for (int f = 0; f < 10; f++) {
            boolean all = true;
            for (int i = 0; i < places; i++) {
                long told = shelfRow[d][i];
                all &= i == q || told == skipped(d) || told == shows(s.all.get(i).kind, f);
            }
            if (all) {
                levels.add(f);
            }
        }
        return levels;
    }

    int blushes(int q, int d, int what) {
        if (!is(q) || what < 0 || what > 1) {
            return -1;
        }
        if (noNumbers(d) != 0) {
            return noNumbers(d);
        }
        if (shelfRow[d].length > n()) {
            return -13;
        }
        List<Integer> levels = levels(q, d, shelfRow[d].length);
        return what == 0 ? levels.size() : levels.isEmpty() ? -4 : levels.get(0);
    }

    int forged(int q, int d) {
        int refusal = blushes(q, d, 0);
        if (refusal < 0) {
            return refusal;
        }
        for (int places = 1; places <= shelfRow[d].length; places++) {
            if (levels(q, d, places).isEmpty()) {
                return places - 1;
            }
        }
        return -4;
    }

    int judge(int q, int d) {
        if (!is(q)) {
            return -1;
        }
        if (noNumbers(d) != 0) {
            return noNumbers(d);
        }
        List<Integer> can = new ArrayList<>();
        State t = s.copy();
        can.add(t.all.get(q).turned);
        while (can.size() < 100 && fitBits(t, q, t.limit) != 0 && t.all.get(q).turned < 9) {
            turning(t, Integer.numberOfTrailingZeros(fitBits(t, q, t.limit)), q);
            can.add(t.all.get(q).turned);
        }
        for (int i = 0; i < shelfRow[d].length; i++) {
            long told = shelfRow[d][i];
            if (told != skipped(d) && (i >= can.size() || told != can.get(i))) {
                return i;
            }
        }
        return -4;
    }

    private int z;

    private int draw(int n) {
        z = z * 1103515245 + 12345;
        return (z & Integer.MAX_VALUE) / 65536 % n;
    }

    int months(int n, int seed, int what) {
        if (n < 1 || n > 20 || what < 0 || what > 1) {
            return -1;
        }
        if (n() == 0) {
            return -3;
        }
        z = seed;
        int turned = 0;
        int turnings = 0;
        for (int month = 0; month < n; month++) {
            State t = s.copy();
            for (int k = 0; k < 10; k++) {
                int p = draw(n());
                int q = draw(n());
                if (p != q && may(t, p, q, t.limit) && t.all.get(q).turned < 9) {
                    turning(t, p, q);
                    turnings++;
                } else if (p != q) {
                    fonder(t, p, q);
                }
            }
            turned += t.all.stream().mapToInt(one -> one.turned).sum();
        }
        return what == 0 ? turned : turnings;
    }

    // ---- the image, what is told

    int image() {
        image = s.copy();
        return s.day;
    }

    int restore() {
        if (image == null) {
            return -3;
        }
        s = image.copy();
        return s.day;
    }

    int count(int what) {
        int turned = 0;
        int fond = 0;
        int whole = 0;
        for (int p = 0; p < n(); p++) {
            turned += s.all.get(p).turned;
            whole |= s.all.get(p).turned == 9 ? 1 << p : 0;
            fond += Arrays.stream(s.all.get(p).fond).sum();
        }
        return what < 0 || what > 5 ? -1 : new int[] {n(), s.day, s.limit, turned, fond, whole}[what];
    }

    // ---- shelves

    int keep(int d, int what, int k, int figure) {
        if (d < 0 || d > 7 || what < 0 || what > 1) {
            return -1;
        }
        if (what == 1 && (k < 0 || k > 7 || figure < 0 || figure > 9)) {
            return -1;
        }
        shelfRow[d] = null;
        shelfOne[d] = null;
        if (what == 1) {
            shelfOne[d] = new One();
            shelfOne[d].kind = k;
            shelfOne[d].figure = figure;
        }
        return 0;
    }

    int row(int d, int sort, int n) {
        if (d < 0 || d > 7 || sort < 0 || sort > 2 || n > 100) {
            return -1;
        }
        if (n < 0) {
            return -14;
        }
        shelfOne[d] = null;
        shelfRow[d] = new long[n];
        shelfSort[d] = sort;
        return 0;
    }

    int put(int d, int i, int v) {
        if (noNumbers(d) != 0) {
            return noNumbers(d);
        }
        if (i < 0 || i >= shelfRow[d].length) {
            return -13;
        }
        int bits = 8 << shelfSort[d];
        shelfRow[d][i] = v << 32 - bits >> 32 - bits;
        return 0;
    }

    long element(int d, int i) {
        if (d < 0 || d > 7) {
            return NO_ARGUMENT;
        }
        return shelfRow[d] == null || i < 0 || i >= shelfRow[d].length ? NO_STATE : shelfRow[d][i];
    }

    int copy(int d, int i, int e, int j, int n) {
        if (d < 0 || d > 7 || e < 0 || e > 7) {
            return -1;
        }
        if (noNumbers(d) == -11 || noNumbers(e) == -11) {
            return -11;
        }
        if (shelfRow[d] == null || shelfRow[e] == null || shelfSort[d] != shelfSort[e]) {
            return -12;
        }
        if (i < 0 || j < 0 || n < 0 || (long) i + n > shelfRow[d].length || (long) j + n > shelfRow[e].length) {
            return -13;
        }
        long[] from = shelfRow[d].clone();
        for (int k = 0; k < n; k++) {
            shelfRow[e][j + k] = from[i + k];
        }
        return n;
    }

    int cost(int d) {
        return noOne(d) != 0 ? noOne(d) : price(shelfOne[d].kind, shelfOne[d].figure);
    }

    int toss(int d) {
        if (noOne(d) != 0) {
            return noOne(d);
        }
        int kind = shelfOne[d].kind;
        int figure = shelfOne[d].figure;
        if (kind == 3 || figure == 0) {
            return -15;
        }
        return kind == 6 ? 200 + price(kind, figure) : kind == 2 ? 100 + figure : figure;
    }
}
