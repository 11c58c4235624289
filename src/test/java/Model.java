import java.math.BigInteger;
import java.util.ArrayList;
import java.util.HashMap;
import java.util.List;
import java.util.Map;

/** The document in a second form, slow and plain: fractions of big numbers, every swap and row of acts tried. */
public final class Model {
    private static final int BAD = -1, FULL = -2, FINDING = -3, STATE = -4, NONE = -9;
    private static final long TIMES = 6364136223846793005L, MORE = 1442695040888963407L;
    private static final Map<List<Integer>, BigInteger[][]> KNOWN = new HashMap<>();

    /** Each caster: kind, n, k, finger, lo, hi. */
    private final List<int[]> casters = new ArrayList<>();
    private final int[][] figures = new int[8][];
    private final byte[][] rows = new byte[4][];
    private List<Integer> steps = new ArrayList<>();
    private final int[] times = new int[6];
    private int latest = 0;
    private long asked = 0;
    private BigInteger upper = BigInteger.ZERO;
    private BigInteger lower = BigInteger.ONE;
    private long s;

    public Model() {
        for (int f = 0; f < 8; f++) {
            figures[f] = new int[] {8, 8, 8, 8, 8, 8};
        }
    }

    private static boolean in(int v, int from, int to) {
        return v >= from && v <= to;
    }

    private boolean noCaster(int c) {
        return !in(c, 0, casters.size() - 1);
    }

    private int found(int f) {
        latest = f;
        times[f]++;
        return FINDING;
    }

    private int keep(int... caster) {
        if (casters.size() == 10) {
            return FULL;
        }
        casters.add(caster);
        return casters.size() - 1;
    }

    public int caster(boolean coins) {
        return keep(coins ? 2 : 0, NONE, NONE, NONE, 0, 0);
    }

    public int stalks(int n, int k, boolean finger) {
        return in(n, 4, 60) && in(k, 2, 8) ? keep(1, n, k, finger ? 1 : 0, 1, 59) : BAD;
    }

    public int thumb(int n, int k, boolean finger, int lo, int hi) {
        boolean fit = in(n, 4, 60) && in(k, 2, 8) && in(lo, 1, 59) && in(hi, lo, 59);
        return fit ? keep(3, n, k, finger ? 1 : 0, lo, hi) : BAD;
    }

    public int told(int caster, int what) {
        return noCaster(caster) || !in(what, 0, 3) ? BAD : casters.get(caster)[what];
    }

    private static boolean isStalks(int[] c) {
        return c[0] == 1 || c[0] == 3;
    }

    private static int left(int[] c, int n, int a) {
        if (n < 2) {
            return n;
        }
        int[] heaps = {a, n - a - c[3]};
        int sum = 0;
        for (int heap : heaps) {
            int stay = 0;
            // Counted off by k as long as more than k are there: what stays in hand is the rest.
            while (heap > c[2]) {
                heap -= c[2];
                stay += c[2];
            }
            sum += stay;
        }
        return sum;
    }

    private static List<Integer> places(int[] c, int n) {
        List<Integer> places = new ArrayList<>();
        for (int a = 1; a < n; a++) {
            if (a >= c[4] && a <= c[5]) {
                places.add(a);
            }
        }
        if (places.isEmpty()) {
            places.add(n - 1);
        }
        return places;
    }

    public int mark(int caster, int kind) {
        if (noCaster(caster) || !in(kind, 1, 3)) {
            return BAD;
        }
        int[] c = casters.get(caster);
        if (kind == 1 && isStalks(c)) {
            return left(c, c[1], 1);
        }
        if (kind == 2 && c[0] == 2) {
            return 4;
        }
        return kind == 3 && c[0] == 3 ? places(c, c[1]).size() : found(3);
    }

    public int part(int caster, int n, int a) {
        if (noCaster(caster) || !in(n, 0, 60)) {
            return BAD;
        }
        int[] c = casters.get(caster);
        if (!isStalks(c)) {
            return found(3);
        }
        return n >= 2 && !in(a, 1, n - 1) ? found(2) : left(c, n, a);
    }

    public int line(int caster, int a, int b, int c) {
        if (noCaster(caster)) {
            return BAD;
        }
        int[] one = casters.get(caster);
        if (!isStalks(one)) {
            return found(3);
        }
        int n = one[1];
        for (int at : new int[] {a, b, c}) {
            if (n >= 2 && !in(at, 1, n - 1)) {
                return found(2);
            }
            n = left(one, n, at);
        }
        return n / one[2];
    }

    private static BigInteger[] lowest(BigInteger up, BigInteger low) {
        BigInteger by = up.gcd(low);
        return new BigInteger[] {up.divide(by), low.divide(by)};
    }

    private static BigInteger[] sum(BigInteger[] a, BigInteger[] b) {
        return lowest(a[0].multiply(b[1]).add(b[0].multiply(a[1])), a[1].multiply(b[1]));
    }

    private static BigInteger[] fraction(long up, long low) {
        return new BigInteger[] {BigInteger.valueOf(up), BigInteger.valueOf(low)};
    }

    private static BigInteger[][] nothing() {
        BigInteger[][] odds = new BigInteger[31][];
        for (int v = 0; v < 31; v++) {
            odds[v] = fraction(0, 1);
        }
        return odds;
    }

    /** The odds of all lines, if n stalks are parted some times more. */
    private static BigInteger[][] oddsOf(int[] c, int n, int more) {
        List<Integer> key = List.of(c[2], c[3], c[4], c[5], n, more);
        BigInteger[][] known = KNOWN.get(key);
        if (known != null) {
            return known;
        }
        BigInteger[][] odds = nothing();
        if (more == 0 || n < 2) {
            odds[n / c[2]] = fraction(1, 1);
        } else {
            List<Integer> places = places(c, n);
            for (int a : places) {
                BigInteger[][] then = oddsOf(c, left(c, n, a), more - 1);
                for (int v = 0; v < 31; v++) {
                    BigInteger low = then[v][1].multiply(BigInteger.valueOf(places.size()));
                    odds[v] = sum(odds[v], lowest(then[v][0], low));
                }
            }
        }
        KNOWN.put(key, odds);
        return odds;
    }

    private static BigInteger[][] oddsOf(int[] c, int fewer) {
        if (isStalks(c)) {
            return oddsOf(c, c[1] - fewer, 3);
        }
        BigInteger[][] odds = nothing();
        if (c[0] == 0) {
            odds[7] = fraction(1, 1);
        } else {
            odds[6] = fraction(1, 8);
            odds[7] = fraction(3, 8);
            odds[8] = fraction(3, 8);
            odds[9] = fraction(1, 8);
        }
        return odds;
    }

    public int odds(int caster, int v) {
        if (noCaster(caster) || !in(v, 0, 30)) {
            return BAD;
        }
        BigInteger[] told = oddsOf(casters.get(caster), 0)[v];
        upper = told[0];
        lower = told[1];
        return 1;
    }

    public int mean(int caster) {
        if (noCaster(caster)) {
            return BAD;
        }
        BigInteger[] mean = fraction(0, 1);
        BigInteger[][] odds = oddsOf(casters.get(caster), 0);
        for (int v = 0; v < 31; v++) {
            mean = sum(mean, lowest(odds[v][0].multiply(BigInteger.valueOf(v)), odds[v][1]));
        }
        upper = mean[0];
        lower = mean[1];
        return 1;
    }

    private int next(int[] c) {
        if (c[0] == 0) {
            return 7;
        }
        if (c[0] == 2) {
            s = s * TIMES + MORE;
            return "67778889".charAt((int) ((s >>> 33) % 8)) - '0';
        }
        int n = c[1];
        for (int i = 0; i < 3; i++) {
            if (n >= 2) {
                s = s * TIMES + MORE;
                List<Integer> places = places(c, n);
                n = left(c, n, places.get((int) ((s >>> 33) % places.size())));
            }
        }
        return n / c[2];
    }

    public int drawn(int caster, long s) {
        if (noCaster(caster)) {
            return BAD;
        }
        this.s = s;
        return next(casters.get(caster));
    }

    public int set(int f, int i, int v) {
        if (!in(f, 0, 7) || !in(v, 6, 9)) {
            return BAD;
        }
        if (!in(i, 0, 5)) {
            return found(2);
        }
        int was = figures[f][i];
        figures[f][i] = v;
        return was;
    }

    public int get(int f, int i) {
        if (!in(f, 0, 7)) {
            return BAD;
        }
        return in(i, 0, 5) ? figures[f][i] : found(2);
    }

    public int draw(int f, int caster, long s) {
        if (!in(f, 0, 7) || noCaster(caster)) {
            return BAD;
        }
        this.s = s;
        int[] lines = new int[6];
        int old = 0;
        for (int i = 0; i < 6; i++) {
            lines[i] = next(casters.get(caster));
            if (!in(lines[i], 6, 9)) {
                return STATE;
            }
            old += lines[i] % 3 == 0 ? 1 : 0;
        }
        figures[f] = lines;
        return old;
    }

    public int number(int f) {
        if (!in(f, 0, 7)) {
            return BAD;
        }
        int number = 0;
        for (int i = 5; i >= 0; i--) {
            number = number * 2 + figures[f][i] % 2;
        }
        return number;
    }

    public int act(int f, int act, int to) {
        if (!in(f, 0, 7) || !in(act, 0, 3) || !in(to, 0, 7)) {
            return BAD;
        }
        int[] of = figures[f];
        int[] lines = new int[6];
        for (int i = 0; i < 6; i++) {
            lines[i] = act == 0 ? new int[] {7, 7, 8, 8}[of[i] - 6]
                : act == 1 ? of[5 - i]
                : act == 2 ? new int[] {9, 8, 7, 6}[of[i] - 6]
                : of[new int[] {1, 2, 3, 2, 3, 4}[i]];
        }
        figures[to] = lines;
        return number(to);
    }

    private static int turned(int x) {
        String bits = Integer.toBinaryString(x + 64).substring(1);
        return Integer.parseInt(new StringBuilder(bits).reverse().toString(), 2);
    }

    private static int after(int x, int act) {
        if (act < 6) {
            return x ^ 1 << act;
        }
        return act == 6 ? turned(x) : act == 7 ? 63 - x : (x >> 1 & 7) + (x >> 2 & 7) * 8;
    }

    /** All rows of acts of a length, the first of them first, but for those that come nowhere new. */
    public int way(int x, int y, int let) {
        if (!in(x, 0, 63) || !in(y, 0, 63) || !in(let, 0, 511)) {
            return BAD;
        }
        Map<Integer, List<Integer>> best = new HashMap<>();
        best.put(x, new ArrayList<>());
        List<Integer> wave = List.of(x);
        while (!best.containsKey(y) && !wave.isEmpty()) {
            Map<Integer, List<Integer>> met = new HashMap<>();
            for (int at : wave) {
                for (int act = 0; act < 9; act++) {
                    int to = after(at, act);
                    if ((let >> act) % 2 == 1 && !best.containsKey(to)) {
                        List<Integer> acts = new ArrayList<>(best.get(at));
                        acts.add(act);
                        if (!met.containsKey(to) || acts.toString().compareTo(met.get(to).toString()) < 0) {
                            met.put(to, acts);
                        }
                    }
                }
            }
            best.putAll(met);
            wave = new ArrayList<>(met.keySet());
        }
        steps = best.getOrDefault(y, new ArrayList<>());
        return best.containsKey(y) ? steps.size() : NONE;
    }

    public int step(int i) {
        return in(i, 0, steps.size() - 1) ? steps.get(i) : NONE;
    }

    public int row(int r, int n) {
        if (!in(r, 0, 3) || n > 64) {
            return BAD;
        }
        if (n < 0) {
            return found(5);
        }
        rows[r] = new byte[n];
        return n;
    }

    public int lay(int r, int i, int v) {
        if (!in(r, 0, 3)) {
            return BAD;
        }
        if (rows[r] == null) {
            return found(1);
        }
        if (!in(i, 0, rows[r].length - 1)) {
            return found(2);
        }
        int was = rows[r][i];
        rows[r][i] = (byte) v;
        return was + 1000;
    }

    public int tear(int r) {
        if (!in(r, 0, 3)) {
            return BAD;
        }
        if (rows[r] == null) {
            return found(1);
        }
        rows[r] = null;
        return 1;
    }

    public int copy(int r, int i, int to, int j, int n) {
        if (!in(r, 0, 3) || !in(to, 0, 3)) {
            return BAD;
        }
        if (n < 0) {
            return found(5);
        }
        if (rows[r] == null || rows[to] == null) {
            return found(1);
        }
        if (i < 0 || j < 0 || (long) i + n > rows[r].length || (long) j + n > rows[to].length) {
            return found(2);
        }
        byte[] ahead = rows[r].clone();
        for (int b = 0; b < n; b++) {
            rows[to][j + b] = ahead[i + b];
        }
        return 1;
    }

    private static int misfits(byte[] list, int order) {
        int misfits = 0;
        for (int i = 0; i < list.length; i++) {
            boolean there = in(list[i], 0, 63);
            if (order == 0 && there && list[i] != i) {
                misfits++;
            }
            if (order == 1 && there && turned(list[i]) != i) {
                misfits++;
            }
            if (order == 2 && i % 2 == 1 && there && in(list[i - 1], 0, 63)) {
                int due = turned(list[i - 1]);
                misfits += list[i] == (due == list[i - 1] ? 63 - due : due) ? 0 : 1;
            }
        }
        return misfits;
    }

    public int misfits(int r, int order) {
        if (!in(r, 0, 3) || !in(order, 0, 2)) {
            return BAD;
        }
        return rows[r] == null ? found(1) : misfits(rows[r], order);
    }

    public int follows(int r) {
        if (!in(r, 0, 3)) {
            return BAD;
        }
        if (rows[r] == null) {
            return found(1);
        }
        int best = 2;
        for (int order = 1; order >= 0; order--) {
            best = misfits(rows[r], order) <= misfits(rows[r], best) ? order : best;
        }
        asked = misfits(rows[r], best);
        return best;
    }

    public int lacks(int r) {
        if (!in(r, 0, 3)) {
            return BAD;
        }
        if (rows[r] == null) {
            return found(1);
        }
        asked = 0;
        int many = 0;
        for (int v = 0; v < 64; v++) {
            boolean there = false;
            for (byte b : rows[r]) {
                there |= b == v;
            }
            asked |= there ? 0 : 1L << v;
            many += there ? 0 : 1;
        }
        return many;
    }

    public int swapped(int r, int order) {
        if (!in(r, 0, 3) || !in(order, 0, 2)) {
            return BAD;
        }
        if (rows[r] == null) {
            return found(1);
        }
        if (misfits(rows[r], order) == 0) {
            return 0;
        }
        for (int i = 0; i < rows[r].length; i++) {
            for (int j = i + 1; j < rows[r].length; j++) {
                byte[] other = rows[r].clone();
                other[i] = rows[r][j];
                other[j] = rows[r][i];
                if (misfits(other, order) == 0) {
                    return 100 * i + j;
                }
            }
        }
        return NONE;
    }

    public int record(int r, int caster, long s, int n) {
        if (!in(r, 0, 3) || noCaster(caster) || !in(n, 0, 64)) {
            return BAD;
        }
        this.s = s;
        rows[r] = new byte[n];
        for (int i = 0; i < n; i++) {
            rows[r][i] = (byte) next(casters.get(caster));
        }
        return n;
    }

    private static int[] partsOf(BigInteger[][] odds) {
        int[] parts = new int[31];
        for (int v = 0; v < 31; v++) {
            parts[v] = odds[v][0].multiply(BigInteger.valueOf(1000000)).divide(odds[v][1]).intValueExact();
        }
        return parts;
    }

    private static int counting(byte[] row) {
        int n = 0;
        for (byte b : row) {
            n += in(b, 0, 30) ? 1 : 0;
        }
        return n;
    }

    private static long offOf(byte[] row, int[] c, int fewer) {
        int[] parts = partsOf(oddsOf(c, fewer));
        long off = 0;
        for (int v = 0; v < 31; v++) {
            long often = 0;
            for (byte b : row) {
                often += b == v ? 1 : 0;
            }
            off += Math.abs(parts[v] - 1000000 * often / counting(row));
        }
        return off;
    }

    public int off(int r, int caster) {
        if (!in(r, 0, 3) || noCaster(caster)) {
            return BAD;
        }
        if (rows[r] == null) {
            return found(1);
        }
        if (counting(rows[r]) == 0) {
            return found(4);
        }
        asked = offOf(rows[r], casters.get(caster), 0);
        return 1;
    }

    public int nearest(int r) {
        if (!in(r, 0, 3)) {
            return BAD;
        }
        if (casters.isEmpty()) {
            return STATE;
        }
        if (rows[r] == null) {
            return found(1);
        }
        if (counting(rows[r]) == 0) {
            return found(4);
        }
        int best = 0;
        for (int c = 1; c < casters.size(); c++) {
            if (offOf(rows[r], casters.get(c), 0) < offOf(rows[r], casters.get(best), 0)) {
                best = c;
            }
        }
        return best;
    }

    public int lost(int r, int caster) {
        if (!in(r, 0, 3) || noCaster(caster)) {
            return BAD;
        }
        if (rows[r] == null) {
            return found(1);
        }
        int[] c = casters.get(caster);
        if (!isStalks(c)) {
            return found(3);
        }
        if (counting(rows[r]) == 0) {
            return found(4);
        }
        int best = 0;
        for (int fewer = 1; fewer <= 8; fewer++) {
            if (c[1] - fewer >= 4 && offOf(rows[r], c, fewer) < offOf(rows[r], c, best)) {
                best = fewer;
            }
        }
        return best;
    }

    public int need(int caster, int other) {
        if (noCaster(caster) || noCaster(other)) {
            return BAD;
        }
        int[] one = partsOf(oddsOf(casters.get(caster), 0));
        int[] two = partsOf(oddsOf(casters.get(other), 0));
        long differ = 0;
        for (int v = 0; v < 31; v++) {
            differ += Math.abs(one[v] - two[v]);
        }
        if (differ == 0) {
            return NONE;
        }
        int n = 0;
        while (n * differ < 10000000) {
            n++;
        }
        return n;
    }

    public long asked() {
        return asked;
    }

    public long upper() {
        return upper.longValueExact();
    }

    public long lower() {
        return lower.longValueExact();
    }

    public int count(int what) {
        int many = 0;
        if (what == 1) {
            for (byte[] row : rows) {
                many += row == null ? 0 : 1;
            }
            return many;
        }
        for (int[] figure : figures) {
            for (int line : figure) {
                many += line == 6 || line == 9 ? 1 : 0;
            }
        }
        return what == 0 ? casters.size() : what == 2 ? many : BAD;
    }

    public int finding() {
        return latest;
    }

    public int findings(int f) {
        return in(f, 1, 5) ? times[f] : BAD;
    }

    public long digest() {
        List<Integer> all = new ArrayList<>();
        for (int[] c : casters) {
            for (int what = 0; what < 4; what++) {
                all.add(c[what]);
            }
        }
        for (int[] figure : figures) {
            for (int line : figure) {
                all.add(line);
            }
        }
        for (byte[] row : rows) {
            all.add(row == null ? -1 : row.length);
            for (int i = 0; row != null && i < row.length; i++) {
                all.add((int) row[i]);
            }
        }
        long h = 17;
        for (int v : all) {
            h = 31 * h + v;
        }
        return h;
    }
}
