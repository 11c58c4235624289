import java.util.Arrays;

/** Lines cast from stalks and coins, figures of six lines, lists of figures and records of casts. */
public final class StalkRoom {
    public static final int BAD = -1, FULL = -2, FINDING = -3, STATE = -4, NONE = -9;

    private static final int NOTHING = 1, BEYOND = 2, UNLIKE = 3, NOUGHT = 4, SIZE = 5;
    private static final int KIND_CASTER = 0, KIND_STALKS = 1, KIND_COINS = 2, KIND_THUMB = 3;
    private static final int MOST_CASTERS = 10, FIGURES = 8, ROWS = 4;
    private static final int LEAST_STALKS = 4, MOST_STALKS = 60, LEAST_BY = 2, MOST_BY = 8;
    private static final int LAST_PLACE = 59, LAST_LINE = 30, MOST_LOST = 8;
    private static final int FIGURE_LINES = 6, NUMBERS = 64, WAY_ACTS = 9, ROW_BYTES = 64;
    private static final int BY_COUNT = 0, BACK = 1, PAIRS = 2;
    private static final int MILLION = 1000000, MOST_OFF = 2 * MILLION, NEEDED = 10000000;

    private final Caster[] casters = new Caster[MOST_CASTERS];
    private int casterCount = 0;
    private final Figure[] figures = new Figure[FIGURES];
    private final Figure spare = new Figure();
    private final ByteRow[] rows = new ByteRow[ROWS];
    private final WayFinder finder = new WayFinder();
    private final Seed seed = new Seed();
    private final Odds odds = new Odds();
    private final int[] parts = new int[LAST_LINE + 1];
    private final int[] otherParts = new int[LAST_LINE + 1];
    private final int[] findingTimes = new int[SIZE + 1];
    private int latestFinding = 0;
    private long lastAsked = 0;
    private long fractionUpper = 0;
    private long fractionLower = 1;

    public StalkRoom() {
        for (int f = 0; f < FIGURES; f++) {
            figures[f] = new Figure();
        }
        for (int r = 0; r < ROWS; r++) {
            rows[r] = new ByteRow();
        }
    }

    // ---- 1 casters

    public int caster(boolean coins) {
        if (casterCount >= MOST_CASTERS) {
            return FULL;
        }
        return keep(coins ? new Coins() : new Caster());
    }

    public int stalks(int n, int k, boolean finger) {
        if (!isBundle(n, k)) {
            return BAD;
        }
        if (casterCount >= MOST_CASTERS) {
            return FULL;
        }
        return keep(new Stalks(n, k, finger));
    }

    public int thumb(int n, int k, boolean finger, int lo, int hi) {
        if (!isBundle(n, k) || lo < 1 || hi < lo || hi > LAST_PLACE) {
            return BAD;
        }
        if (casterCount >= MOST_CASTERS) {
            return FULL;
        }
        return keep(new Thumb(n, k, finger, lo, hi));
    }

    public int told(int caster, int what) {
        Caster one = casterAt(caster);
        if (one == null || what < 0 || what > 3) {
            return BAD;
        }
        return one.tell(what);
    }

    public int mark(int caster, int kind) {
        Caster one = casterAt(caster);
        if (one == null || kind < KIND_STALKS || kind > KIND_THUMB) {
            return BAD;
        }
        if (kind == KIND_STALKS && one instanceof Stalks stalks) {
            return stalks.leftOf(stalks.bundle, 1);
        }
        if (kind == KIND_COINS && one instanceof Coins) {
            return Coins.UNLIKE_LINES;
        }
        if (kind == KIND_THUMB && one instanceof Thumb thumb) {
            return thumb.placesAtFirst();
        }
        return found(UNLIKE);
    }

    public int part(int caster, int n, int a) {
        Caster one = casterAt(caster);
        if (one == null || n < 0 || n > MOST_STALKS) {
            return BAD;
        }
        Stalks stalks = asStalks(one);
        if (stalks == null) {
            return found(UNLIKE);
        }
        int left = stalks.partedAt(n, a);
        return left < 0 ? found(BEYOND) : left;
    }

    public int line(int caster, int a, int b, int c) {
        Caster one = casterAt(caster);
        if (one == null) {
            return BAD;
        }
        Stalks stalks = asStalks(one);
        if (stalks == null) {
            return found(UNLIKE);
        }
        int first = stalks.partedAt(stalks.bundle, a);
        int second = stalks.partedAt(first, b);
        int left = stalks.partedAt(second, c);
        return left < 0 ? found(BEYOND) : stalks.lineOf(left);
    }

    public int odds(int caster, int v) {
        Caster one = casterAt(caster);
        if (one == null || v < 0 || v > LAST_LINE) {
            return BAD;
        }
        one.weigh(odds);
        tellFraction(odds.weights[v], odds.all);
        return 1;
    }

    public int mean(int caster) {
        Caster one = casterAt(caster);
        if (one == null) {
            return BAD;
        }
        one.weigh(odds);
        long sum = 0;
        for (int v = 0; v <= LAST_LINE; v++) {
            sum += v * odds.weights[v];
        }
        tellFraction(sum, odds.all);
        return 1;
    }

    public int drawn(int caster, long s) {
        Caster one = casterAt(caster);
        if (one == null) {
            return BAD;
        }
        seed.begin(s);
        return one.castLine(seed);
    }

    // ---- 2 figures

    public int set(int f, int i, int v) {
        Figure figure = figureAt(f);
        if (figure == null || v < 6 || v > 9) {
            return BAD;
        }
        if (i < 0 || i >= FIGURE_LINES) {
            return found(BEYOND);
        }
        int was = figure.lines[i];
        figure.lines[i] = v;
        return was;
    }

    public int get(int f, int i) {
        Figure figure = figureAt(f);
        if (figure == null) {
            return BAD;
        }
        if (i < 0 || i >= FIGURE_LINES) {
            return found(BEYOND);
        }
        return figure.lines[i];
    }

    public int draw(int f, int caster, long s) {
        Figure figure = figureAt(f);
        Caster one = casterAt(caster);
        if (figure == null || one == null) {
            return BAD;
        }
        seed.begin(s);
        // Drawn aside first: a line that no figure can have leaves the figure as it was.
        if (!spare.castBy(one, seed)) {
            return STATE;
        }
        figure.become(spare);
        return figure.oldLines();
    }

    public int number(int f) {
        Figure figure = figureAt(f);
        return figure == null ? BAD : figure.bits();
    }

    public int act(int f, int act, int to) {
        Figure from = figureAt(f);
        Figure target = figureAt(to);
        if (from == null || target == null || act < 0 || act > 3) {
            return BAD;
        }
        // Made aside first: a figure may come to itself.
        spare.becomeAfter(act, from);
        target.become(spare);
        return target.bits();
    }

    public int way(int x, int y, int let) {
        if (!isNumber(x) || !isNumber(y) || let < 0 || let >= (1 << WAY_ACTS)) {
            return BAD;
        }
        return finder.find(x, y, let);
    }

    public int step(int i) {
        return finder.actAt(i);
    }

    // ---- 3 lists, records

    public int row(int r, int n) {
        ByteRow row = rowAt(r);
        if (row == null || n > ROW_BYTES) {
            return BAD;
        }
        if (n < 0) {
            return found(SIZE);
        }
        row.begin(n);
        return n;
    }

    public int lay(int r, int i, int v) {
        ByteRow row = rowAt(r);
        if (row == null) {
            return BAD;
        }
        if (!row.isThere()) {
            return found(NOTHING);
        }
        if (i < 0 || i >= row.size) {
            return found(BEYOND);
        }
        int was = row.bytes[i];
        row.bytes[i] = (byte) v;
        return was + 1000;
    }

    public int tear(int r) {
        ByteRow row = rowAt(r);
        if (row == null) {
            return BAD;
        }
        if (!row.isThere()) {
            return found(NOTHING);
        }
        row.size = ByteRow.MISSING;
        return 1;
    }

    public int copy(int r, int i, int to, int j, int n) {
        ByteRow from = rowAt(r);
        ByteRow target = rowAt(to);
        if (from == null || target == null) {
            return BAD;
        }
        if (n < 0) {
            return found(SIZE);
        }
        if (!from.isThere() || !target.isThere()) {
            return found(NOTHING);
        }
        if (!from.hasBytes(i, n) || !target.hasBytes(j, n)) {
            return found(BEYOND);
        }
        System.arraycopy(from.bytes, i, target.bytes, j, n);
        return 1;
    }

    public int misfits(int r, int order) {
        ByteRow row = rowAt(r);
        if (row == null || !isOrder(order)) {
            return BAD;
        }
        if (!row.isThere()) {
            return found(NOTHING);
        }
        return row.misfitsIn(order);
    }

    public int follows(int r) {
        ByteRow row = rowAt(r);
        if (row == null) {
            return BAD;
        }
        if (!row.isThere()) {
            return found(NOTHING);
        }
        int best = BY_COUNT;
        int fewest = row.misfitsIn(BY_COUNT);
        for (int order = BACK; order <= PAIRS; order++) {
            int misfits = row.misfitsIn(order);
            if (misfits < fewest) {
                fewest = misfits;
                best = order;
            }
        }
        lastAsked = fewest;
        return best;
    }

    public int lacks(int r) {
        ByteRow row = rowAt(r);
        if (row == null) {
            return BAD;
        }
        if (!row.isThere()) {
            return found(NOTHING);
        }
        lastAsked = ~row.numbersThere();
        return Long.bitCount(lastAsked);
    }

    public int swapped(int r, int order) {
        ByteRow row = rowAt(r);
        if (row == null || !isOrder(order)) {
            return BAD;
        }
        if (!row.isThere()) {
            return found(NOTHING);
        }
        return row.mendingSwap(order);
    }

    public int record(int r, int caster, long s, int n) {
        ByteRow row = rowAt(r);
        Caster one = casterAt(caster);
        if (row == null || one == null || n < 0 || n > ROW_BYTES) {
            return BAD;
        }
        row.begin(n);
        seed.begin(s);
        for (int i = 0; i < n; i++) {
            row.bytes[i] = (byte) one.castLine(seed);
        }
        return n;
    }

    public int off(int r, int caster) {
        ByteRow row = rowAt(r);
        Caster one = casterAt(caster);
        if (row == null || one == null) {
            return BAD;
        }
        if (!row.isThere()) {
            return found(NOTHING);
        }
        if (!row.partsInto(otherParts)) {
            return found(NOUGHT);
        }
        lastAsked = offOf(one);
        return 1;
    }

    public int nearest(int r) {
        ByteRow row = rowAt(r);
        if (row == null) {
            return BAD;
        }
        if (casterCount == 0) {
            return STATE;
        }
        if (!row.isThere()) {
            return found(NOTHING);
        }
        if (!row.partsInto(otherParts)) {
            return found(NOUGHT);
        }
        int best = 0;
        int least = MOST_OFF + 1;
        for (int c = 0; c < casterCount; c++) {
            int off = offOf(casterAt(c));
            if (off < least) {
                least = off;
                best = c;
            }
        }
        return best;
    }

    public int lost(int r, int caster) {
        ByteRow row = rowAt(r);
        Caster one = casterAt(caster);
        if (row == null || one == null) {
            return BAD;
        }
        if (!row.isThere()) {
            return found(NOTHING);
        }
        Stalks stalks = asStalks(one);
        if (stalks == null) {
            return found(UNLIKE);
        }
        if (!row.partsInto(otherParts)) {
            return found(NOUGHT);
        }
        int best = 0;
        int least = MOST_OFF + 1;
        for (int fewer = 0; fewer <= MOST_LOST && stalks.bundle - fewer >= LEAST_STALKS; fewer++) {
            stalks.weighBundle(stalks.bundle - fewer, odds);
            int off = weighedDiffer();
            if (off < least) {
                least = off;
                best = fewer;
            }
        }
        return best;
    }

    public int need(int caster, int other) {
        Caster one = casterAt(caster);
        Caster two = casterAt(other);
        if (one == null || two == null) {
            return BAD;
        }
        two.weigh(odds);
        odds.partsInto(otherParts);
        int differ = offOf(one);
        if (differ <= 0) {
            return NONE;
        }
        return (NEEDED + differ - 1) / differ;
    }

    // ---- 4 what is told

    public long asked() {
        return lastAsked;
    }

    public long upper() {
        return fractionUpper;
    }

    public long lower() {
        return fractionLower;
    }

    public int count(int what) {
        switch (what) {
            case 0:
                return casterCount;
            case 1:
                return rowsThere();
            case 2:
                return oldLinesOfAll();
            default:
                return BAD;
        }
    }

    public int finding() {
        return latestFinding;
    }

    public int findings(int f) {
        return f < NOTHING || f > SIZE ? BAD : findingTimes[f];
    }

    public long digest() {
        long h = 17;
        for (int c = 0; c < casterCount; c++) {
            for (int what = 0; what <= 3; what++) {
                h = 31 * h + told(c, what);
            }
        }
        for (int f = 0; f < FIGURES; f++) {
            for (int i = 0; i < FIGURE_LINES; i++) {
                h = 31 * h + figures[f].lines[i];
            }
        }
        for (int r = 0; r < ROWS; r++) {
            h = 31 * h + rows[r].size;
            for (int i = 0; i < rows[r].size; i++) {
                h = 31 * h + rows[r].bytes[i];
            }
        }
        return h;
    }

    // ---- what the calls share

    private int found(int finding) {
        latestFinding = finding;
        findingTimes[finding]++;
        return FINDING;
    }

    private int keep(Caster one) {
        int at = casterCount;
        casters[at] = one;
        casterCount = at + 1;
        return at;
    }

    private Caster casterAt(int c) {
        return c < 0 || c >= casterCount ? null : casters[c];
    }

    private Figure figureAt(int f) {
        return f < 0 || f >= FIGURES ? null : figures[f];
    }

    private ByteRow rowAt(int r) {
        return r < 0 || r >= ROWS ? null : rows[r];
    }

    private int rowsThere() {
        int there = 0;
        for (int r = 0; r < ROWS; r++) {
            if (rows[r].isThere()) {
                there++;
            }
        }
        return there;
    }

    private int oldLinesOfAll() {
        int old = 0;
        for (int f = 0; f < FIGURES; f++) {
            old += figures[f].oldLines();
        }
        return old;
    }

    private void tellFraction(long up, long low) {
        long divisor = commonDivisor(up, low);
        if (divisor > 0) {
            fractionUpper = up / divisor;
            fractionLower = low / divisor;
        }
    }

    /** How much the parts of a caster differ from otherParts, over all lines. */
    private int offOf(Caster one) {
        if (one == null) {
            return MOST_OFF;
        }
        one.weigh(odds);
        return weighedDiffer();
    }

    /** How much the parts of what was weighed last differ from otherParts, over all lines. */
    private int weighedDiffer() {
        odds.partsInto(parts);
        int sum = 0;
        for (int v = 0; v <= LAST_LINE; v++) {
            sum += Math.abs(parts[v] - otherParts[v]);
        }
        return sum;
    }

    private static long commonDivisor(long a, long b) {
        // Euclid needs fewer than 100 rounds for any two longs.
        for (int round = 0; round < 100 && b != 0; round++) {
            long over = a % b;
            a = b;
            b = over;
        }
        return a;
    }

    private static Stalks asStalks(Caster one) {
        if (one instanceof Stalks stalks) {
            return stalks;
        }
        return null;
    }

    private static boolean isBundle(int n, int k) {
        return n >= LEAST_STALKS && n <= MOST_STALKS && k >= LEAST_BY && k <= MOST_BY;
    }

    private static boolean isNumber(int x) {
        return x >= 0 && x < NUMBERS;
    }

    private static boolean isOrder(int order) {
        return order >= BY_COUNT && order <= PAIRS;
    }

    private static boolean isOld(int line) {
        return line == 6 || line == 9;
    }

    private static int turnedBits(int x) {
        int turned = 0;
        for (int i = 0; i < FIGURE_LINES; i++) {
            turned = (turned << 1) | ((x >> i) & 1);
        }
        return turned;
    }

    private static int oppositeBits(int x) {
        return x ^ (NUMBERS - 1);
    }

    private static int nestedBits(int x) {
        return ((x >> 1) & 7) | (((x >> 2) & 7) << 3);
    }

    /** The number S that goes on from drawing to drawing. */
    private static final class Seed {
        private long s = 0;

        void begin(long first) {
            s = first;
        }

        int nextBelow(int many) {
            s = s * 6364136223846793005L + 1442695040888963407L;
            return many < 1 ? 0 : (int) ((s >>> 33) % many);
        }
    }

    /**
     * Odds of all lines as whole weights of one sum. A parting leaves one of two numbers of
     * stalks, so six numbers are parted in three rounds, and the sum stays at or below 59 to the
     * power of 6: a long holds it, a million times over.
     */
    private static final class Odds {
        private final long[] weights = new long[LAST_LINE + 1];
        private final long[] heaps = new long[MOST_STALKS + 1];
        private final long[] nextHeaps = new long[MOST_STALKS + 1];
        private long all = 1;

        void begin(long sum) {
            Arrays.fill(weights, 0);
            all = sum;
        }

        void beginBundle(int n) {
            begin(1);
            Arrays.fill(heaps, 0);
            if (n >= 0 && n <= MOST_STALKS) {
                heaps[n] = 1;
            }
        }

        /** The parts of all lines: their odds in millionths, cut. */
        void partsInto(int[] parts) {
            for (int v = 0; v < parts.length && v <= LAST_LINE; v++) {
                parts[v] = all < 1 ? 0 : (int) (MILLION * weights[v] / all);
            }
        }
    }

    /** A caster whose every line is 7, and what all casters can do. */
    private static class Caster {
        int tell(int what) {
            return what == 0 ? KIND_CASTER : NONE;
        }

        int castLine(Seed seed) {
            return 7;
        }

        void weigh(Odds odds) {
            odds.begin(1);
            odds.weights[7] = 1;
        }
    }

    private static final class Coins extends Caster {
        private static final int UNLIKE_LINES = 4;

        int tell(int what) {
            return what == 0 ? KIND_COINS : NONE;
        }

        int castLine(Seed seed) {
            int side = seed.nextBelow(8);
            if (side == 0) {
                return 6;
            }
            if (side <= 3) {
                return 7;
            }
            return side <= 6 ? 8 : 9;
        }

        void weigh(Odds odds) {
            odds.begin(8);
            odds.weights[6] = 1;
            odds.weights[7] = 3;
            odds.weights[8] = 3;
            odds.weights[9] = 1;
        }
    }

    private static class Stalks extends Caster {
        private final int bundle;
        private final int by;
        private final int fingers;

        Stalks(int n, int k, boolean finger) {
            bundle = n;
            by = k;
            fingers = finger ? 1 : 0;
        }

        int tell(int what) {
            switch (what) {
                case 0:
                    return kind();
                case 1:
                    return bundle;
                case 2:
                    return by;
                default:
                    return fingers;
            }
        }

        int kind() {
            return KIND_STALKS;
        }

        /** The least place that n stalks, two or more, are parted at. */
        int firstPlace(int n) {
            return 1;
        }

        int lastPlace(int n) {
            return n - 1;
        }

        int placesOf(int n) {
            return lastPlace(n) - firstPlace(n) + 1;
        }

        int placesAtFirst() {
            return placesOf(bundle);
        }

        int lineOf(int left) {
            return by < 1 ? 0 : left / by;
        }

        /** What is left of n stalks, two or more, parted at a place that there is. */
        int leftOf(int n, int a) {
            int right = n - fingers - a;
            return a - rest(a) + right - rest(right);
        }

        /** What is left of n stalks; below 0, if n is, or if they can't be parted at a. */
        int partedAt(int n, int a) {
            if (n < 2) {
                return n;
            }
            return a < 1 || a >= n ? -1 : leftOf(n, a);
        }

        int castLine(Seed seed) {
            int n = bundle;
            for (int round = 0; round < 3 && n >= 2; round++) {
                n = leftOf(n, firstPlace(n) + seed.nextBelow(placesOf(n)));
            }
            return lineOf(n);
        }

        void weigh(Odds odds) {
            weighBundle(bundle, odds);
        }

        /** The odds of the same caster, had it n stalks. */
        void weighBundle(int n, Odds odds) {
            odds.beginBundle(n);
            for (int round = 0; round < 3; round++) {
                partHeaps(odds);
            }
            for (int left = 0; left <= MOST_STALKS; left++) {
                int line = lineOf(left);
                if (line >= 0 && line <= LAST_LINE) {
                    odds.weights[line] += odds.heaps[left];
                }
            }
        }

        private void partHeaps(Odds odds) {
            long share = sharesOf(odds.heaps);
            odds.all *= share;
            Arrays.fill(odds.nextHeaps, 0);
            for (int n = 0; n <= MOST_STALKS; n++) {
                if (odds.heaps[n] > 0) {
                    partHeap(n, odds.heaps[n] * share, odds.nextHeaps);
                }
            }
            System.arraycopy(odds.nextHeaps, 0, odds.heaps, 0, odds.heaps.length);
        }

        /** A number that can be shared among the places of every heap that there is. */
        private long sharesOf(long[] heaps) {
            long share = 1;
            for (int n = 2; n < heaps.length; n++) {
                if (heaps[n] > 0) {
                    share *= placesOf(n);
                }
            }
            return share;
        }

        private void partHeap(int n, long weight, long[] into) {
            if (n < 2) {
                into[n] += weight;
                return;
            }
            int places = placesOf(n);
            long each = places < 1 ? 0 : weight / places;
            int first = firstPlace(n);
            for (int a = first; a < first + places; a++) {
                int left = leftOf(n, a);
                if (left >= 0 && left < into.length) {
                    into[left] += each;
                }
            }
        }

        private int rest(int heap) {
            if (heap < 1 || by < 1) {
                return 0;
            }
            int over = heap % by;
            return over == 0 ? by : over;
        }
    }

    /** Stalks that are parted at some places alone, as a thumb falls. */
    private static final class Thumb extends Stalks {
        private final int lo;
        private final int hi;

        Thumb(int n, int k, boolean finger, int lo, int hi) {
            super(n, k, finger);
            this.lo = lo;
            this.hi = hi;
        }

        int kind() {
            return KIND_THUMB;
        }

        int firstPlace(int n) {
            return lo < n ? lo : n - 1;
        }

        int lastPlace(int n) {
            return hi < n ? hi : n - 1;
        }
    }

    private static final class Figure {
        private final int[] lines = new int[FIGURE_LINES];

        Figure() {
            Arrays.fill(lines, 8);
        }

        int bits() {
            int bits = 0;
            for (int i = 0; i < FIGURE_LINES; i++) {
                if (lines[i] == 7 || lines[i] == 9) {
                    bits |= 1 << i;
                }
            }
            return bits;
        }

        int oldLines() {
            int old = 0;
            for (int i = 0; i < FIGURE_LINES; i++) {
                if (isOld(lines[i])) {
                    old++;
                }
            }
            return old;
        }

        void become(Figure other) {
            System.arraycopy(other.lines, 0, lines, 0, FIGURE_LINES);
        }

        /** Draws all lines; false, if one came that is none of a figure. */
        boolean castBy(Caster one, Seed seed) {
            boolean fit = true;
            for (int i = 0; i < FIGURE_LINES; i++) {
                lines[i] = one.castLine(seed);
                fit &= lines[i] >= 6 && lines[i] <= 9;
            }
            return fit;
        }

        /** Becomes another figure after an act. */
        void becomeAfter(int act, Figure from) {
            for (int i = 0; i < FIGURE_LINES; i++) {
                switch (act) {
                    case 0:
                        lines[i] = changed(from.lines[i]);
                        break;
                    case 1:
                        lines[i] = from.lines[FIGURE_LINES - 1 - i];
                        break;
                    case 2:
                        lines[i] = 15 - from.lines[i];
                        break;
                    default:
                        lines[i] = from.lines[i < 3 ? i + 1 : i - 1];
                        break;
                }
            }
        }

        private static int changed(int line) {
            if (line == 6) {
                return 7;
            }
            return line == 9 ? 8 : line;
        }
    }

    /**
     * Looks for the way from a number to another one, wave by wave. Numbers wait in the order in
     * which they were met, and acts are tried the lesser first, so the first way met is the first
     * of the shortest.
     */
    private static final class WayFinder {
        private static final int UNSEEN = -1;

        private final int[] waiting = new int[NUMBERS];
        private final int[] before = new int[NUMBERS];
        private final int[] metBy = new int[NUMBERS];
        private final int[] acts = new int[NUMBERS];
        private int actCount = 0;

        int find(int x, int y, int let) {
            meetAll(x, let);
            actCount = 0;
            if (before[y] == UNSEEN) {
                return NONE;
            }
            for (int at = y; at != x && isNumber(at) && actCount < NUMBERS; at = before[at]) {
                acts[actCount] = metBy[at];
                actCount++;
            }
            return actCount;
        }

        int actAt(int i) {
            // They are held from the last to the first.
            return i < 0 || i >= actCount ? NONE : acts[actCount - 1 - i];
        }

        private void meetAll(int x, int let) {
            Arrays.fill(before, UNSEEN);
            before[x] = x;
            waiting[0] = x;
            int met = 1;
            for (int next = 0; next < met && next < NUMBERS; next++) {
                int at = waiting[next];
                for (int act = 0; act < WAY_ACTS; act++) {
                    int to = after(at, act);
                    if (((let >> act) & 1) == 1 && before[to] == UNSEEN && met < NUMBERS) {
                        before[to] = at;
                        metBy[to] = act;
                        waiting[met] = to;
                        met++;
                    }
                }
            }
        }

        private static int after(int x, int act) {
            switch (act) {
                case 6:
                    return turnedBits(x);
                case 7:
                    return oppositeBits(x);
                case 8:
                    return nestedBits(x);
                default:
                    return x ^ (1 << act);
            }
        }
    }

    /** A row of bytes: a list of numbers, or a record of lines. */
    private static final class ByteRow {
        private static final int MISSING = -1;

        private final byte[] bytes = new byte[ROW_BYTES];
        private int size = MISSING;

        boolean isThere() {
            return size >= 0;
        }

        void begin(int n) {
            Arrays.fill(bytes, (byte) 0);
            size = n;
        }

        /** Whether there are n bytes (n not below 0) from i on. */
        boolean hasBytes(int i, int n) {
            return i >= 0 && i <= size - n;
        }

        int misfitsIn(int order) {
            int misfits = 0;
            for (int i = 0; i < size; i += order == PAIRS ? 2 : 1) {
                if (isMisfit(i, order)) {
                    misfits++;
                }
            }
            return misfits;
        }

        long numbersThere() {
            long there = 0;
            for (int i = 0; i < size; i++) {
                if (isNumber(bytes[i])) {
                    there |= 1L << bytes[i];
                }
            }
            return there;
        }

        /** The first two leaves that mend the list by changing places, as 100 i + j; 0; NONE. */
        int mendingSwap(int order) {
            int misfits = misfitsIn(order);
            if (misfits == 0) {
                return 0;
            }
            // A change of places touches two leaves, or two pairs, and mends no other.
            if (misfits > 2) {
                return NONE;
            }
            for (int i = 0; i < size; i++) {
                for (int j = i + 1; j < size; j++) {
                    if ((isMisfit(i, order) || isMisfit(j, order)) && isMendedBy(i, j, order)) {
                        return 100 * i + j;
                    }
                }
            }
            return NONE;
        }

        /** How often each line was, in millionths of those that count; false, if none counts. */
        boolean partsInto(int[] parts) {
            Arrays.fill(parts, 0);
            int n = 0;
            for (int i = 0; i < size; i++) {
                if (bytes[i] >= 0 && bytes[i] < parts.length) {
                    parts[bytes[i]]++;
                    n++;
                }
            }
            if (n == 0) {
                return false;
            }
            for (int v = 0; v < parts.length; v++) {
                parts[v] = MILLION * parts[v] / n;
            }
            return true;
        }

        private boolean isMendedBy(int i, int j, int order) {
            changePlaces(i, j);
            boolean mended = misfitsIn(order) == 0;
            changePlaces(i, j);
            return mended;
        }

        private void changePlaces(int i, int j) {
            byte kept = bytes[i];
            bytes[i] = bytes[j];
            bytes[j] = kept;
        }

        /** Whether leaf i is a misfit; in pairs, whether the pair that it stands in is. */
        private boolean isMisfit(int i, int order) {
            if (order == PAIRS) {
                return isMisfitPair(i & ~1);
            }
            return isNumber(bytes[i]) && bytes[i] != (order == BY_COUNT ? i : turnedBits(i));
        }

        private boolean isMisfitPair(int i) {
            if (i + 1 >= size || !isNumber(bytes[i]) || !isNumber(bytes[i + 1])) {
                return false;
            }
            int turned = turnedBits(bytes[i]);
            return bytes[i + 1] != (turned == bytes[i] ? oppositeBits(turned) : turned);
        }
    }
}
