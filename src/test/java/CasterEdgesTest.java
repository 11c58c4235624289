import java.math.BigInteger;

/** Sentences of section 1 and promises 1 to 11 that name an edge, each with a test of its own. */
public final class CasterEdgesTest {
    private static final int FULL = StalkRoom.FULL, NONE = StalkRoom.NONE;
    private static final int MIN = Integer.MIN_VALUE, MAX = Integer.MAX_VALUE;
    private static final int[] FAR = {MIN, -1, 0, 1, 2, 60, MAX};
    private static final long[] FAR_SEEDS = {Long.MIN_VALUE, Long.MIN_VALUE + 1, -1, 0, 1, Long.MAX_VALUE - 1, Long.MAX_VALUE};
    private static final BigInteger WRAP = BigInteger.ONE.shiftLeft(64);

    public static void main(String[] args) {
        tenCastersOfAllKinds();
        toldAtTheEdges();
        restOfEachHeap();
        fingerLeavesAnEmptyHeap();
        fewerThanTwoStay();
        linesLeastAndGreatest();
        lineLooksAtNoPlaceOfFewerThanTwo();
        marks();
        thumbPartsWhereItCan();
        thumbWithNoPlacePartsAtTheLast();
        thumbOfAllPlacesIsAsStalks();
        oddsOfKind0AndCoins();
        oddsAreWholeAndLowest();
        drawnWraps();
        drawnOfFewerThanTwoStays();
        coinsDrawOnce();
        Due.end();
    }

    /** "CASTERS 0, 1, .. (10 at most)": all kinds count together. */
    private static void tenCastersOfAllKinds() {
        StalkRoom x = new StalkRoom();
        int[] kinds = {3, 0, 2, 1, 1, 2, 3, 3, 0, 1};
        for (int c = 0; c < 10; c++) {
            int got = kinds[c] == 1 ? x.stalks(4, 2, false) : kinds[c] == 3 ? x.thumb(60, 8, true, 59, 59)
                : x.caster(kinds[c] == 2);
            Due.due("caster number", got, c);
            Due.due("count(0)", x.count(0), c + 1);
        }
        Due.due("the 11th: caster", x.caster(false), FULL);
        Due.due("the 11th: coins", x.caster(true), FULL);
        Due.due("the 11th: stalks", x.stalks(49, 4, true), FULL);
        Due.due("the 11th: thumb", x.thumb(49, 4, true, 1, 5), FULL);
        Due.due("count(0)", x.count(0), 10);
        for (int c = 0; c < 10; c++) {
            Due.due("kind of " + c, x.told(c, 0), kinds[c]);
        }
    }

    /** "0 its KIND, 1 N (NONE), 2 k (NONE), 3 FINGER (1, 0; NONE)". */
    private static void toldAtTheEdges() {
        StalkRoom x = new StalkRoom();
        x.stalks(4, 2, false);
        x.stalks(60, 8, true);
        x.thumb(4, 8, true, 1, 1);
        x.thumb(60, 2, false, 59, 59);
        x.caster(false);
        x.caster(true);
        int[][] want = {{1, 4, 2, 0}, {1, 60, 8, 1}, {3, 4, 8, 1}, {3, 60, 2, 0},
            {0, NONE, NONE, NONE}, {2, NONE, NONE, NONE}};
        for (int c = 0; c < want.length; c++) {
            for (int what = 0; what < 4; what++) {
                Due.due("told(" + c + ", " + what + ")", x.told(c, what), want[c][what]);
            }
        }
    }

    /** "REST is taken: what is over, counted off by k, but k itself, if nothing is over". */
    private static void restOfEachHeap() {
        for (int k = 2; k <= 8; k++) {
            StalkRoom x = new StalkRoom();
            x.stalks(49, k, false);
            x.stalks(49, k, true);
            for (int heap = 1; heap <= 3 * k; heap++) {
                // The other heap is k stalks and is taken whole, so what is left is of this one.
                int left = heap <= k ? 0 : heap <= 2 * k ? k : 2 * k;
                String of = heap + " by " + k;
                Due.due("left heap of " + of, x.part(0, heap + k, heap), left);
                Due.due("right heap of " + of, x.part(0, heap + k, k), left);
                Due.due("left heap of " + of + ", finger", x.part(1, heap + k + 1, heap), left);
                Due.due("right heap of " + of + ", finger", x.part(1, heap + k + 1, k), left);
            }
        }
    }

    /** "With a FINGER one of the right ones is taken"; "nothing of an empty heap". */
    private static void fingerLeavesAnEmptyHeap() {
        StalkRoom x = new StalkRoom();
        x.stalks(49, 4, true);
        x.stalks(49, 2, true);
        // n by 4 at n - 1: n - 1 on the left, none on the right.
        int[] left = {0, 0, 0, 0, 4, 4, 4, 4, 8};
        for (int n = 2; n <= 10; n++) {
            Due.due("4 of " + n + " at the last place", x.part(0, n, n - 1), left[n - 2]);
        }
        Due.due("2 of 2 at 1", x.part(1, 2, 1), 0);
        Due.due("2 of 3 at 2", x.part(1, 3, 2), 0);
        Due.due("2 of 4 at 3", x.part(1, 4, 3), 2);
        Due.due("2 of 60 at 59", x.part(1, 60, 59), 58);
        Due.due("2 of 60 at 58, one on the right", x.part(1, 60, 58), 56);
    }

    /** "Fewer than two stalks can't be parted: all stay"; "(of fewer than two: it is not looked at)". */
    private static void fewerThanTwoStay() {
        StalkRoom x = new StalkRoom();
        x.stalks(4, 2, false);
        x.stalks(4, 8, true);
        x.thumb(4, 2, true, 59, 59);
        for (int c = 0; c < 3; c++) {
            for (int a : FAR) {
                Due.due("part(" + c + ", 0, " + a + ")", x.part(c, 0, a), 0);
                Due.due("part(" + c + ", 1, " + a + ")", x.part(c, 1, a), 1);
            }
            Due.due("part(" + c + ", 2, 1)", x.part(c, 2, 1), 0);
        }
        Due.due("no finding", x.finding(), 0);
        Due.finding("part(0, 2, 0)", x, x.part(0, 2, 0), 2);
        Due.finding("part(0, 2, 2)", x, x.part(0, 2, 2), 2);
    }

    /** "it is what is left at last by k (a whole number: 0 .. 30)". */
    private static void linesLeastAndGreatest() {
        StalkRoom x = new StalkRoom();
        x.stalks(60, 2, false);
        x.stalks(60, 2, true);
        x.stalks(60, 8, false);
        x.stalks(4, 2, false);
        x.stalks(4, 8, true);
        Due.due("60 by 2, greatest", x.line(0, 1, 1, 1), 27);
        Due.due("60 by 2, greatest, from the other end", x.line(0, 59, 57, 55), 27);
        // 60, 56, 52, 48.
        Due.due("60 by 2, least", x.line(0, 2, 2, 2), 24);
        Due.due("60 by 2, finger", x.line(1, 59, 57, 55), 27);
        // 60 at 1: 56; 56 at 1: 48; 48 at 1: 40.
        Due.due("60 by 8", x.line(2, 1, 1, 1), 5);
        Due.due("4 by 2", x.line(3, 1, 1, 1), 0);
        Due.due("4 by 8", x.line(4, 3, 1, 1), 0);
    }

    /** "BEYOND: one can't be": a place of fewer than two stalks is none that can't be. */
    private static void lineLooksAtNoPlaceOfFewerThanTwo() {
        StalkRoom x = new StalkRoom();
        x.stalks(8, 2, false);
        x.stalks(4, 8, false);
        for (int far : FAR) {
            // 8 at 2 leave 4, 4 at 2 leave none.
            Due.due("line(0, 2, 2, " + far + ")", x.line(0, 2, 2, far), 0);
            for (int farther : FAR) {
                Due.due("line(1, 3, " + far + ", " + farther + ")", x.line(1, 3, far, farther), 0);
            }
        }
        Due.due("no finding", x.finding(), 0);
        // 8 at 2 leave 4, 4 at 1 leave 2.
        Due.due("line(0, 2, 1, 1)", x.line(0, 2, 1, 1), 0);
        Due.finding("line(0, 2, 1, 2)", x, x.line(0, 2, 1, 2), 2);
        Due.finding("line(0, 2, 1, 0)", x, x.line(0, 2, 1, 0), 2);
        Due.finding("line(0, 2, 4, 1)", x, x.line(0, 2, 4, 1), 2);
        Due.finding("line(0, 2, 0, 1)", x, x.line(0, 2, 0, 1), 2);
        Due.finding("line(0, 8, 1, 1)", x, x.line(0, 8, 1, 1), 2);
        Due.finding("line(0, 0, 1, 1)", x, x.line(0, 0, 1, 1), 2);
        Due.finding("line(1, 0, 1, 1)", x, x.line(1, 0, 1, 1), 2);
        Due.finding("line(1, 4, 1, 1)", x, x.line(1, 4, 1, 1), 2);
        Due.due("findings(2)", x.findings(2), 8);
    }

    /** "how many are left of N, parted at 1, the first time", "how many unlike LINES they cast". */
    private static void marks() {
        StalkRoom x = new StalkRoom();
        x.stalks(4, 2, false);
        x.stalks(4, 8, true);
        x.stalks(60, 2, false);
        x.stalks(60, 8, true);
        x.thumb(60, 2, false, 59, 59);
        // One on the left, and of four on the right all are taken.
        x.stalks(5, 4, false);
        x.thumb(6, 4, true, 5, 5);
        x.caster(true);
        int[] left = {2, 0, 58, 56, 58, 0, 0};
        for (int c = 0; c < left.length; c++) {
            Due.due("mark(" + c + ", 1)", x.mark(c, 1), left[c]);
        }
        Due.due("mark(7, 2)", x.mark(7, 2), 4);
    }

    private static StalkRoom thumbOf(int n, int lo, int hi) {
        StalkRoom x = new StalkRoom();
        x.thumb(n, 2, false, lo, hi);
        return x;
    }

    /** "THUMBS at each a from lo to hi that there is": n, lo, hi, and how many places. */
    private static void thumbPartsWhereItCan() {
        int[][] due = {{10, 1, 59, 9}, {10, 1, 10, 9}, {10, 1, 9, 9}, {10, 1, 8, 8}, {10, 2, 9, 8}, {10, 1, 1, 1},
            {10, 8, 9, 2}, {10, 8, 10, 2}, {10, 8, 59, 2}, {10, 9, 9, 1}, {10, 9, 59, 1}, {10, 10, 10, 1},
            {10, 10, 59, 1}, {10, 59, 59, 1}, {60, 1, 59, 59}, {60, 59, 59, 1}, {60, 58, 59, 2},
            {4, 1, 59, 3}, {4, 3, 3, 1}, {4, 4, 4, 1}};
        for (int[] d : due) {
            StalkRoom x = thumbOf(d[0], d[1], d[2]);
            Due.due("places of " + d[0] + ", " + d[1] + " to " + d[2], x.mark(0, 3), d[3]);
        }
        // 10 at 1 leave 8, then 6, then 4.
        certain(thumbOf(10, 1, 1), 2);
        // 10 at 2 leave 6, then 2; these have no place 2: at 1.
        certain(thumbOf(10, 2, 2), 0);
        // 10 at 3 leave 8, then 6, then 4.
        certain(thumbOf(10, 3, 3), 2);
        // At 8 there stay 6, then 4, then 2; at 9 there stay 8, then 6, then 4.
        StalkRoom x = thumbOf(10, 8, 59);
        Due.fraction("odds of 1, lo alone is there", x, x.odds(0, 1), 1, 2);
        Due.fraction("odds of 2, lo alone is there", x, x.odds(0, 2), 1, 2);
        Due.fraction("mean, lo alone is there", x, x.mean(0), 3, 2);
    }

    /** The line that always comes: its odds, the mean, and what is drawn. */
    private static void certain(StalkRoom x, int line) {
        for (int v = 0; v <= 30; v++) {
            Due.fraction("certain odds(0, " + v + ")", x, x.odds(0, v), v == line ? 1 : 0, 1);
        }
        Due.fraction("certain mean(0)", x, x.mean(0), line, 1);
        for (long s : FAR_SEEDS) {
            Due.due("certain drawn(0, " + s + ")", x.drawn(0, s), line);
        }
    }

    /** "if there is none of them: at n - 1". */
    private static void thumbWithNoPlacePartsAtTheLast() {
        // 10 at 9 leave 8, at 7 leave 6, at 5 leave 4.
        certain(thumbOf(10, 9, 9), 2);
        certain(thumbOf(10, 10, 10), 2);
        certain(thumbOf(10, 59, 59), 2);
        certain(thumbOf(60, 59, 59), 27);
        certain(thumbOf(4, 4, 4), 0);
    }

    /** "STALKS part at each a alike often (1 .. n - 1)", and so does a thumb that has all places. */
    private static void thumbOfAllPlacesIsAsStalks() {
        for (int n : new int[] {4, 8, 49, 60}) {
            StalkRoom x = new StalkRoom();
            x.stalks(n, 2, true);
            x.thumb(n, 2, true, 1, 59);
            x.thumb(n, 2, true, 1, n - 1);
            for (int v = 0; v <= 30; v++) {
                x.odds(0, v);
                long upper = x.upper();
                long lower = x.lower();
                Due.fraction("odds(1, " + v + ") of " + n, x, x.odds(1, v), upper, lower);
                Due.fraction("odds(2, " + v + ") of " + n, x, x.odds(2, v), upper, lower);
            }
            for (long s : FAR_SEEDS) {
                Due.due("drawn of " + n, x.drawn(1, s), x.drawn(0, s));
            }
        }
    }

    /** "0 CASTER (every line is 7)"; "COINS: 6 one of eight times, 7 three, 8 three, 9 one". */
    private static void oddsOfKind0AndCoins() {
        StalkRoom x = new StalkRoom();
        x.caster(false);
        x.caster(true);
        int[] eighths = {1, 3, 3, 1};
        for (int v = 0; v <= 30; v++) {
            Due.fraction("odds(0, " + v + ")", x, x.odds(0, v), v == 7 ? 1 : 0, 1);
            boolean cast = v >= 6 && v <= 9;
            Due.fraction("odds(1, " + v + ")", x, x.odds(1, v), cast ? eighths[v - 6] : 0, cast ? 8 : 1);
        }
        for (long s : FAR_SEEDS) {
            Due.due("drawn(0, " + s + ")", x.drawn(0, s), 7);
        }
    }

    /** "in lowest terms, the lower number above 0 (0 by 1)", "to the last fraction": they come to 1. */
    private static void oddsAreWholeAndLowest() {
        for (int n : new int[] {4, 5, 8, 52, 59, 60}) {
            for (int k = 2; k <= 8; k += 3) {
                for (int c = 0; c < 3; c++) {
                    StalkRoom x = new StalkRoom();
                    x.stalks(n, k, false);
                    x.stalks(n, k, true);
                    x.thumb(n, k, true, 1, n > 50 ? 47 : 2);
                    wholeAndLowest("caster " + c + ", " + n + " by " + k, x, c);
                }
            }
        }
    }

    private static void wholeAndLowest(String of, StalkRoom x, int c) {
        BigInteger up = BigInteger.ZERO;
        BigInteger low = BigInteger.ONE;
        BigInteger mean = BigInteger.ZERO;
        for (int v = 0; v <= 30; v++) {
            x.odds(c, v);
            lowest("odds of " + v + ", " + of, x);
            BigInteger upper = BigInteger.valueOf(x.upper());
            BigInteger lower = BigInteger.valueOf(x.lower());
            up = up.multiply(lower).add(upper.multiply(low));
            mean = mean.multiply(lower).add(upper.multiply(low).multiply(BigInteger.valueOf(v)));
            low = low.multiply(lower);
        }
        Due.due("the odds come to 1, " + of, up.equals(low) ? 1 : 0, 1);
        x.mean(c);
        lowest("mean, " + of, x);
        boolean due = BigInteger.valueOf(x.upper()).multiply(low).equals(BigInteger.valueOf(x.lower()).multiply(mean));
        Due.due("the mean is that of the odds, " + of, due ? 1 : 0, 1);
    }

    private static void lowest(String of, StalkRoom x) {
        Due.due(of + ": lower above 0, upper not below", x.lower() > 0 && x.upper() >= 0 ? 1 : 0, 1);
        BigInteger by = BigInteger.valueOf(x.upper()).gcd(BigInteger.valueOf(x.lower()));
        Due.due(of + ": lowest terms", by.longValueExact(), 1);
    }

    /** "S times 6364136223846793005 and 1442695040888963407 more (it wraps)". */
    private static BigInteger next(BigInteger s) {
        return s.multiply(new BigInteger("6364136223846793005")).add(new BigInteger("1442695040888963407")).mod(WRAP);
    }

    private static int drawnBelow(BigInteger s, int many) {
        return s.shiftRight(33).mod(BigInteger.valueOf(many)).intValueExact();
    }

    /** "a is the least that can be, and (S .. as told by >>> 33) modulo how many can be, more". */
    private static void drawnWraps() {
        int[] coins = {6, 7, 7, 7, 8, 8, 8, 9};
        for (long seed : seeds()) {
            StalkRoom x = new StalkRoom();
            x.caster(true);
            x.stalks(49, 4, true);
            x.thumb(60, 2, false, 30, 54);
            BigInteger s = BigInteger.valueOf(seed).mod(WRAP);
            Due.due("drawn(0, " + seed + ")", x.drawn(0, seed), coins[drawnBelow(next(s), 8)]);
            int[] stalks = new int[3];
            int[] thumb = new int[3];
            int left = 49;
            int leftOfThumb = 60;
            for (int i = 0; i < 3; i++) {
                s = next(s);
                stalks[i] = 1 + drawnBelow(s, left - 1);
                left = x.part(1, left, stalks[i]);
                // Never below 48, so place 30 is always there.
                thumb[i] = 30 + drawnBelow(s, Math.min(54, leftOfThumb - 1) - 29);
                leftOfThumb = x.part(2, leftOfThumb, thumb[i]);
            }
            Due.due("drawn(1, " + seed + ")", x.drawn(1, seed), x.line(1, stalks[0], stalks[1], stalks[2]));
            Due.due("drawn(2, " + seed + ")", x.drawn(2, seed), x.line(2, thumb[0], thumb[1], thumb[2]));
        }
    }

    private static long[] seeds() {
        long[] seeds = new long[FAR_SEEDS.length + 40];
        System.arraycopy(FAR_SEEDS, 0, seeds, 0, FAR_SEEDS.length);
        for (int i = FAR_SEEDS.length; i < seeds.length; i++) {
            seeds[i] = (i % 2 == 0 ? 1 : -1) * 0x123456789abcdefL * i;
        }
        return seeds;
    }

    /** "Of fewer than two stalks nothing is drawn (S stays)": the next line is drawn with the same S. */
    private static void drawnOfFewerThanTwoStays() {
        for (long seed : FAR_SEEDS) {
            StalkRoom x = new StalkRoom();
            x.stalks(8, 2, false);
            BigInteger s = BigInteger.valueOf(seed).mod(WRAP);
            int[] want = new int[64];
            int stopped = 0;
            for (int i = 0; i < want.length; i++) {
                int left = 8;
                for (int round = 0; round < 3; round++) {
                    if (left >= 2) {
                        s = next(s);
                        left = x.part(0, left, 1 + drawnBelow(s, left - 1));
                    } else {
                        stopped++;
                    }
                }
                want[i] = left / 2;
            }
            Due.due("some lines end early", stopped > 0 ? 1 : 0, 1);
            StalkRoom fresh = new StalkRoom();
            fresh.stalks(8, 2, false);
            Due.due("record with " + seed, fresh.record(0, 0, seed, 64), 64);
            Fixture.bytes("record with " + seed, fresh, 0, want);
        }
    }

    /** "With COINS S becomes so once for the LINE"; of kind 0 nothing is drawn at all. */
    private static void coinsDrawOnce() {
        int[] coins = {6, 7, 7, 7, 8, 8, 8, 9};
        for (long seed : FAR_SEEDS) {
            StalkRoom x = new StalkRoom();
            x.caster(true);
            x.caster(false);
            BigInteger s = BigInteger.valueOf(seed).mod(WRAP);
            int[] want = new int[64];
            int[] sevens = new int[64];
            for (int i = 0; i < 64; i++) {
                s = next(s);
                want[i] = coins[drawnBelow(s, 8)];
                sevens[i] = 7;
            }
            Due.due("record of coins with " + seed, x.record(0, 0, seed, 64), 64);
            Fixture.bytes("record of coins with " + seed, x, 0, want);
            Due.due("record of kind 0 with " + seed, x.record(1, 1, seed, 64), 64);
            Fixture.bytes("record of kind 0 with " + seed, x, 1, sevens);
        }
    }
}
