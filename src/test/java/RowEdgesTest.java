import java.util.Arrays;

/** Sentences of section 3 and promises 19 to 31 that name an edge, each with a test of its own. */
public final class RowEdgesTest {
    private static final int NONE = StalkRoom.NONE;
    private static final int MIN = Integer.MIN_VALUE, MAX = Integer.MAX_VALUE;
    /** "other bytes: the leaf is gone": the next ones beyond 0 .. 63, and the farthest. */
    private static final int[] GONE = {-128, -1, 64, 127};

    public static void main(String[] args) {
        rowsOfEverySize();
        layCutsToAByte();
        layAtBothEnds();
        tornAndThereAgain();
        copyOfWholeRows();
        copyOntoItself();
        copyOfNone();
        emptyRow();
        goneLeaves();
        allLeavesAstray();
        everyPair();
        lastLeafAlone();
        followsTheLeastOfAlike();
        lacksEachNumber();
        swappedAtTheEnds();
        swappedByNoTwo();
        swappedFirstOfMany();
        recordsOfEverySize();
        linesThatCount();
        partsAreCut();
        offLeastAndGreatest();
        nearestOfAlike();
        nearestOfTen();
        lostAtMostEight();
        lostFewestOfAlike();
        lostFourAtLeast();
        needs();
        Due.end();
    }

    private static int turned(int x) {
        return Integer.reverse(x) >>> 26;
    }

    private static StalkRoom of(int... bytes) {
        StalkRoom x = new StalkRoom();
        Fixture.fill(x, 0, bytes);
        return x;
    }

    private static int[] byCount(int n) {
        int[] list = new int[n];
        for (int i = 0; i < n; i++) {
            list[i] = i;
        }
        return list;
    }

    private static int[] back(int n) {
        int[] list = new int[n];
        for (int i = 0; i < n; i++) {
            list[i] = turned(i);
        }
        return list;
    }

    private static int[] swap(int[] list, int i, int j) {
        int[] other = list.clone();
        other[i] = list[j];
        other[j] = list[i];
        return other;
    }

    /** "A ROW is there with n bytes 0": 0 to 64 of them, whatever was there. */
    private static void rowsOfEverySize() {
        for (int r = 0; r < 4; r++) {
            for (int n : new int[] {0, 1, 2, 63, 64}) {
                StalkRoom x = new StalkRoom();
                int[] zeros = new int[n];
                Due.due("row(" + r + ", " + n + ")", x.row(r, n), n);
                Due.due("count(1)", x.count(1), 1);
                Fixture.bytes("row " + r + " of " + n, x, r, zeros);
                int[] nines = new int[64];
                Arrays.fill(nines, 9);
                Fixture.fill(x, r, nines);
                Due.due("row(" + r + ", " + n + ") again", x.row(r, n), n);
                Due.due("count(1)", x.count(1), 1);
                Fixture.bytes("row " + r + " of " + n + " again", x, r, zeros);
            }
        }
    }

    /** "Byte i of a ROW is v, cut to a byte: what it was, and 1000 more". */
    private static void layCutsToAByte() {
        int[] laid = {0, 127, 128, 255, 256, 257, 383, 384, -1, -128, -129, -256, -257, MIN, MAX, MIN + 1, MAX - 1};
        int[] told = {0, 127, -128, -1, 0, 1, 127, -128, -1, -128, 127, 0, -1, 0, -1, 1, -2};
        for (int i = 0; i < laid.length; i++) {
            StalkRoom x = of(5);
            Due.due("lay(0, 0, " + laid[i] + ")", x.lay(0, 0, laid[i]), 1005);
            Due.due("what was laid of " + laid[i], x.lay(0, 0, 0), 1000 + told[i]);
        }
    }

    private static void layAtBothEnds() {
        StalkRoom x = of(byCount(64));
        Due.due("lay(0, 0, 40)", x.lay(0, 0, 40), 1000);
        Due.due("lay(0, 63, 41)", x.lay(0, 63, 41), 1063);
        int[] want = byCount(64);
        want[0] = 40;
        want[63] = 41;
        Fixture.bytes("both ends", x, 0, want);
    }

    /** "A ROW is missing: 1": an empty one and a full one, too; and it may be there again. */
    private static void tornAndThereAgain() {
        for (int n : new int[] {0, 1, 64}) {
            for (int r = 0; r < 4; r++) {
                StalkRoom x = Fixture.alike(0);
                x.row(r, n);
                Due.due("tear(" + r + ") of " + n, x.tear(r), 1);
                Due.due("count(1)", x.count(1), 3);
                Due.finding("tear(" + r + ") again", x, x.tear(r), 1);
                Due.due("row(" + r + ", 2)", x.row(r, 2), 2);
                Due.due("count(1)", x.count(1), 4);
                Fixture.bytes("row behind tear", x, r, 0, 0);
                Fixture.bytes("another row", x, (r + 1) % 4, 7, 8, 9);
            }
        }
    }

    private static void copyOfWholeRows() {
        StalkRoom x = of(byCount(64));
        x.row(3, 64);
        Due.due("copy of a full row", x.copy(0, 0, 3, 0, 64), 1);
        Fixture.bytes("copy of a full row", x, 3, byCount(64));
        Fixture.bytes("what it was taken from", x, 0, byCount(64));
        x.row(1, 1);
        Due.due("copy of the last byte", x.copy(0, 63, 1, 0, 1), 1);
        Fixture.bytes("copy of the last byte", x, 1, 63);
        Due.due("copy to the last byte", x.copy(0, 5, 3, 63, 1), 1);
        int[] want = byCount(64);
        want[63] = 5;
        Fixture.bytes("copy to the last byte", x, 3, want);
    }

    /** "(perhaps itself) .. as if taken ahead". */
    private static void copyOntoItself() {
        int[] forward = new int[64];
        int[] backward = new int[64];
        for (int i = 0; i < 64; i++) {
            forward[i] = Math.max(0, i - 1);
            backward[i] = Math.min(63, i + 1);
        }
        StalkRoom x = of(byCount(64));
        Due.due("copy one on", x.copy(0, 0, 0, 1, 63), 1);
        Fixture.bytes("copy one on", x, 0, forward);
        x = of(byCount(64));
        Due.due("copy one back", x.copy(0, 1, 0, 0, 63), 1);
        Fixture.bytes("copy one back", x, 0, backward);
        x = of(byCount(64));
        Due.due("copy to where it is", x.copy(0, 0, 0, 0, 64), 1);
        Fixture.bytes("copy to where it is", x, 0, byCount(64));
    }

    /** None are always there: from the first place of a row to the one behind its last, of an empty row, too. */
    private static void copyOfNone() {
        StalkRoom x = of(1, 2, 3);
        x.row(1, 0);
        int[][] calls = {{0, 0, 0, 3}, {0, 3, 0, 0}, {0, 3, 0, 3}, {0, 1, 1, 0}, {1, 0, 0, 3}, {1, 0, 1, 0}};
        for (int[] c : calls) {
            Due.due("copy of none", x.copy(c[0], c[1], c[2], c[3], 0), 1);
        }
        Due.due("no finding", x.finding(), 0);
        Due.finding("copy of none, from beyond", x, x.copy(0, 4, 0, 0, 0), 2);
        Due.finding("copy of none, to beyond", x, x.copy(0, 0, 0, 4, 0), 2);
        Due.finding("copy of none, from below", x, x.copy(0, -1, 0, 0, 0), 2);
        Due.finding("copy of none, to below", x, x.copy(0, 0, 0, -1, 0), 2);
        Due.finding("copy of none, beyond an empty row", x, x.copy(1, 1, 0, 0, 0), 2);
        Fixture.bytes("row 0", x, 0, 1, 2, 3);
        Fixture.bytes("row 1", x, 1);
    }

    private static void emptyRow() {
        StalkRoom x = of();
        x.stalks(49, 4, true);
        for (int order = 0; order < 3; order++) {
            Due.due("misfits of none", x.misfits(0, order), 0);
            Due.due("swapped of none", x.swapped(0, order), 0);
        }
        Due.due("lacks of none", x.lacks(0), 64);
        Due.due("its asked()", x.asked(), -1);
        Due.due("follows of none", x.follows(0), 0);
        Due.due("its asked()", x.asked(), 0);
        Due.due("no finding", x.finding(), 0);
        Due.finding("off of none", x, x.off(0, 0), 4);
        Due.finding("nearest of none", x, x.nearest(0), 4);
        Due.finding("lost of none", x, x.lost(0, 0), 4);
    }

    /** "leaves that are there and not so (in PAIRS: pairs of which both are there, and not so ..)". */
    private static void goneLeaves() {
        for (int gone : GONE) {
            StalkRoom x = of(gone, gone, gone, gone);
            for (int order = 0; order < 3; order++) {
                Due.due("all are " + gone + ", order " + order, x.misfits(0, order), 0);
                Due.due("swapped, all are " + gone, x.swapped(0, order), 0);
            }
            Due.due("lacks, all are " + gone, x.lacks(0), 64);
            x = of(0, 0, 5, gone);
            Due.due("leaf 1, the other pair half gone", x.misfits(0, 2), 1);
            Due.due("leaves 1 and 2", x.misfits(0, 0), 2);
            x = of(gone, 5, 0, 0);
            Due.due("pair half gone, the other way", x.misfits(0, 2), 1);
            Due.due("leaves 1, 2 and 3 by count", x.misfits(0, 0), 3);
        }
        // 0 and 63 are leaves that are there.
        Due.due("63 at 0", of(63).misfits(0, 0), 1);
        Due.due("63 at 0, back", of(63).misfits(0, 1), 1);
        Due.due("0 at 1", of(0, 0).misfits(0, 0), 1);
        Due.due("0 at 1, back", of(0, 0).misfits(0, 1), 1);
        Due.due("0 beside 63", of(0, 63, 63, 0).misfits(0, 2), 0);
        Due.due("63 beside 63, 0 beside 0", of(63, 63, 0, 0).misfits(0, 2), 2);
    }

    /** "0 BY COUNT: leaf i is i; 1 BACK: leaf i is i, its six bits told the other way round": none, or all. */
    private static void allLeavesAstray() {
        int[] astray = byCount(64);
        int[] astrayBack = back(64);
        for (int i = 0; i < 64; i++) {
            astray[i] ^= 1;
            astrayBack[i] ^= 1;
        }
        Due.due("by count, none", of(byCount(64)).misfits(0, 0), 0);
        Due.due("by count, all", of(astray).misfits(0, 0), 64);
        Due.due("back, none", of(back(64)).misfits(0, 1), 0);
        Due.due("back, all", of(astrayBack).misfits(0, 1), 64);
        StalkRoom zeros = of(new int[64]);
        Due.due("zeros by count", zeros.misfits(0, 0), 63);
        Due.due("zeros back", zeros.misfits(0, 1), 63);
        Due.due("zeros in pairs, all", zeros.misfits(0, 2), 32);
    }

    /** "leaf i + 1 it TURNED, or OPPOSITE, if TURNED it is itself": every number beside every other. */
    private static void everyPair() {
        for (int one = 0; one < 64; one++) {
            StalkRoom x = of(one, 0);
            int due = turned(one) == one ? 63 - one : turned(one);
            for (int other = 0; other < 64; other++) {
                x.lay(0, 1, other);
                Due.due(other + " beside " + one, x.misfits(0, 2), other == due ? 0 : 1);
            }
        }
    }

    /** "a last leaf without another one is none". */
    private static void lastLeafAlone() {
        Due.due("one leaf", of(5).misfits(0, 2), 0);
        Due.due("a pair and one leaf", of(1, 32, 5).misfits(0, 2), 0);
        Due.due("a misfit and one leaf", of(1, 33, 5).misfits(0, 2), 1);
        Due.due("two misfits", of(1, 33, 5, 5).misfits(0, 2), 2);
        Due.due("63 zeros", of(new int[63]).misfits(0, 2), 31);
    }

    /** "The ORDER with the fewest MISFITS, the least of alike ones; these by asked()". */
    private static void followsTheLeastOfAlike() {
        follows("all alike, none", 0, 0, 64, 64);
        follows("all alike, one each", 0, 1, 0, 5);
        follows("by count and pairs alike", 0, 0, 64, 1);
        follows("back and pairs alike", 1, 0, 64, 32);
        follows("pairs alone", 2, 0, 5);
        follows("back alone", 1, 0, 0, 32);
        follows("by count alone", 0, 0, 0, 1);
        // 12 13 is so by count, 18 50 back, and neither is a pair.
        int[] list = new int[20];
        Arrays.fill(list, -1);
        list[12] = 12;
        list[13] = 13;
        list[18] = 18;
        list[19] = 50;
        follows("by count and back alike", 0, 1, list);
        follows("the most that are fewest", 2, 32, new int[64]);
    }

    private static void follows(String what, int order, int misfits, int... list) {
        StalkRoom x = of(list);
        Due.due("follows, " + what, x.follows(0), order);
        Due.due("its asked(), " + what, x.asked(), misfits);
    }

    /** "NUMBERS that are not in a LIST, told by asked() (a long of bits): how many". */
    private static void lacksEachNumber() {
        for (int v = 0; v < 64; v++) {
            StalkRoom x = of(v, v, -1, 64);
            Due.due("all but " + v, x.lacks(0), 63);
            Due.due("its asked()", x.asked(), ~(1L << v));
            int[] others = byCount(64);
            others[v] = v == 0 ? 63 : v - 1;
            x = of(others);
            Due.due(v + " alone", x.lacks(0), 1);
            Due.due("its asked()", x.asked(), 1L << v);
        }
        StalkRoom x = of(byCount(64));
        Due.due("nothing is lacking", x.lacks(0), 0);
        Due.due("its asked()", x.asked(), 0);
    }

    /** "100 times the one, and the other": the first two leaves, the last two, and the farthest. */
    private static void swappedAtTheEnds() {
        int[][] ends = {{0, 1}, {62, 63}, {0, 63}, {31, 32}};
        for (int[] e : ends) {
            int due = 100 * e[0] + e[1];
            StalkRoom x = of(swap(byCount(64), e[0], e[1]));
            long before = x.digest();
            Due.due("swapped by count, " + due, x.swapped(0, 0), due);
            Due.due("the list stays", x.digest(), before);
            Due.due("swapped back, " + due, of(swap(back(64), e[0], e[1])).swapped(0, 1), due);
        }
        Due.due("swapped of two", of(1, 0).swapped(0, 0), 1);
        Due.due("swapped of two, back", of(32, 0).swapped(0, 1), 1);
        int[] pairs = new int[64];
        for (int i = 0; i < 64; i += 2) {
            pairs[i] = 33;
            pairs[i + 1] = 30;
        }
        pairs[60] = 1;
        pairs[61] = 56;
        pairs[62] = 7;
        pairs[63] = 32;
        Due.due("swapped pairs at the end", of(pairs).swapped(0, 2), 6062);
        Due.due("as it is, by count", of(byCount(64)).swapped(0, 0), 0);
        Due.due("as it is, back", of(back(64)).swapped(0, 1), 0);
        Due.due("as it is, in pairs", of(1, 32, 7, 56).swapped(0, 2), 0);
    }

    /** "NONE: no two do". */
    private static void swappedByNoTwo() {
        Due.due("one leaf astray, no other", of(5).swapped(0, 0), NONE);
        Due.due("one leaf astray, no other, back", of(5).swapped(0, 1), NONE);
        Due.due("one leaf astray", of(0, 1, 1).swapped(0, 0), NONE);
        Due.due("two astray, not each other's", of(0, 3, 1, 3).swapped(0, 0), NONE);
        Due.due("three astray", of(1, 2, 0).swapped(0, 0), NONE);
        Due.due("three astray, back", of(32, 16, 0).swapped(0, 1), NONE);
        Due.due("twice two astray", of(1, 0, 3, 2).swapped(0, 0), NONE);
        Due.due("one pair astray", of(1, 33).swapped(0, 2), NONE);
        Due.due("two pairs astray", of(1, 33, 2, 33).swapped(0, 2), NONE);
        Due.due("three pairs astray", of(1, 56, 7, 16, 2, 32).swapped(0, 2), NONE);
        Due.due("all zeros in pairs", of(new int[64]).swapped(0, 2), NONE);
    }

    /** "The first two leaves (the lesser, then the other one)". */
    private static void swappedFirstOfMany() {
        // 0 and 2 or 1 and 3 mend it; so do 0 and 3, 1 and 2 where a pair may stand either way round.
        Due.due("either of two pairs", of(1, 56, 7, 32).swapped(0, 2), 2);
        Due.due("the other way round", of(1, 56, 32, 7).swapped(0, 2), 3);
        // A leaf that is gone fits everywhere, so a leaf may go to its place.
        for (int gone : GONE) {
            Due.due("the place of a leaf that is " + gone, of(gone, 0).swapped(0, 0), 1);
            Due.due("two such places", of(0, 3, gone, gone).swapped(0, 0), 103);
            Due.due("a pair with a leaf that is gone", of(1, 5, gone, 32).swapped(0, 2), 2);
            Due.due("a leaf to one that is gone", of(gone, 32, 1, 5).swapped(0, 2), 2);
            Due.due("a leaf behind one that is gone", of(5, 32, gone, 1).swapped(0, 2), 3);
            Due.due("the last leaf ahead of one that is gone", of(32, gone, 1, 5).swapped(0, 2), 3);
        }
        // The last leaf stands in no pair.
        Due.due("a pair with the last leaf", of(1, 33, 32).swapped(0, 2), 102);
    }

    /** "RECORDS of n LINES .. are in a ROW: n": 0 to 64, to a row that is there or missing. */
    private static void recordsOfEverySize() {
        for (int r = 0; r < 4; r++) {
            for (int n : new int[] {0, 1, 63, 64}) {
                StalkRoom x = new StalkRoom();
                x.caster(false);
                int[] sevens = new int[n];
                Arrays.fill(sevens, 7);
                Due.due("record of " + n + " to row " + r, x.record(r, 0, 1, n), n);
                Due.due("count(1)", x.count(1), 1);
                Fixture.bytes("record of " + n, x, r, sevens);
                x.row(r, 64);
                Due.due("record of " + n + " to a longer row", x.record(r, 0, 1, n), n);
                Fixture.bytes("record of " + n + " to a longer row", x, r, sevens);
            }
        }
    }

    private static void off(String what, StalkRoom x, int caster, long due) {
        Due.due("off, " + what, x.off(0, caster), 1);
        Due.due("its asked(), " + what, x.asked(), due);
    }

    private static StalkRoom ofKind0(int... lines) {
        StalkRoom x = of(lines);
        x.caster(false);
        return x;
    }

    /** "each byte one, whatever it is; 0 .. 30 count, others are left out"; "NOUGHT: no LINE counts". */
    private static void linesThatCount() {
        for (int line = 0; line <= 30; line++) {
            off(line + " counts", ofKind0(line), 0, line == 7 ? 0 : 2000000);
            off(line + " counts beside a 7", ofKind0(7, line), 0, line == 7 ? 0 : 1000000);
        }
        for (int line = -128; line <= 127; line++) {
            if (line < 0 || line > 30) {
                off(line + " is left out", ofKind0(7, line, line), 0, 0);
                StalkRoom x = ofKind0(line, line);
                x.stalks(49, 4, true);
                Due.finding("off, " + line + " alone", x, x.off(0, 0), 4);
                Due.finding("nearest, " + line + " alone", x, x.nearest(0), 4);
                Due.finding("lost, " + line + " alone", x, x.lost(0, 1), 4);
            }
        }
    }

    /** "its ODDS in millionths, cut"; "a million times how often it was, by n, cut". */
    private static void partsAreCut() {
        off("7 two of three times", ofKind0(7, 6, 7), 0, 333334 + 333333);
        off("7 one of seven times", ofKind0(0, 1, 2, 3, 4, 5, 7), 0, 1000000 - 142857 + 6 * 142857);
        int[] lines = new int[64];
        lines[63] = 7;
        off("7 once in a full row", ofKind0(lines), 0, 2 * (1000000 - 15625));
        lines[0] = 31;
        // 63 count: 1 and 62 of them are 15873 and 984126 millionths, cut.
        off("7 once of 63 that count", ofKind0(lines), 0, 1000000 - 15873 + 984126);
        // 10 by 2 at 7, 8 or 9: a 1 one of three times, a 2 twice: 333333 and 666666 parts.
        int[][] records = {{1, 2, 2}, {1}, {2}, {0}};
        long[] due = {0, 666667 + 666666, 333333 + 333334, 1000000 + 333333 + 666666};
        for (int i = 0; i < records.length; i++) {
            StalkRoom x = of(records[i]);
            x.thumb(10, 2, false, 7, 9);
            off("thirds, record " + i, x, 0, due[i]);
        }
    }

    private static void offLeastAndGreatest() {
        off("nothing", ofKind0(7, 7), 0, 0);
        off("all of both", ofKind0(30, 30), 0, 2000000);
        StalkRoom x = of(6, 7, 7, 7, 8, 8, 8, 9);
        x.caster(true);
        off("nothing of coins", x, 0, 0);
        x.lay(0, 0, 0);
        off("an eighth, twice", x, 0, 250000);
    }

    /** "the CASTER with the least OFF, the least of alike ones". */
    private static void nearestOfAlike() {
        StalkRoom x = of(30);
        x.caster(true);
        Due.due("nearest of one", x.nearest(0), 0);
        x.caster(false);
        x.caster(true);
        x.caster(false);
        Due.due("nearest of four that are all far", x.nearest(0), 0);
        Fixture.fill(x, 0, 7);
        Due.due("nearest, 1 and 3 alike", x.nearest(0), 1);
        Fixture.fill(x, 0, 6, 7, 7, 7, 8, 8, 8, 9);
        Due.due("nearest, 0 and 2 alike", x.nearest(0), 0);
        Due.due("asked() is not told by it", x.asked(), 0);
        // Far, but not as far: kind 0 is off by 2000000, coins by 1750000.
        StalkRoom far = ofKind0(6);
        far.caster(true);
        Due.due("nearest, the less far", far.nearest(0), 1);
        // As far as can be but for one millionth: the parts are a third and two, cut.
        StalkRoom cut = ofKind0(30);
        cut.thumb(10, 2, false, 7, 9);
        Due.due("nearest, less far by what is cut", cut.nearest(0), 1);
    }

    private static void nearestOfTen() {
        for (int near = 0; near < 10; near++) {
            StalkRoom x = of(6, 7, 7, 7, 8, 8, 8, 9);
            for (int c = 0; c < 10; c++) {
                x.caster(c == near);
            }
            Due.due("nearest of ten, " + near, x.nearest(0), near);
        }
    }

    /** By 2 at the last place each time: of 60, 59, 58, .. stalks the lines are 27, 26, 26, 25, 25, .. */
    private static int lostOf(int n, int line) {
        StalkRoom x = of(line);
        x.thumb(n, 2, false, 59, 59);
        return x.lost(0, 0);
    }

    /** "with 0, 1, .., 8 stalks fewer". */
    private static void lostAtMostEight() {
        Due.due("none lost", lostOf(60, 27), 0);
        Due.due("7 lost", lostOf(60, 23), 7);
        Due.due("8 lost", lostOf(59, 22), 8);
        Due.due("9 would have to be lost: all are alike far", lostOf(60, 22), 0);
        for (int n = 8; n <= 16; n++) {
            StalkRoom x = of(0);
            x.stalks(n, 2, false);
            // From 7 stalks on down every line is 0; of 16 with 8 fewer it is so the most often.
            Due.due("zeros of " + n, x.lost(0, 0), Math.min(8, n - 7));
        }
    }

    /** "the fewest lost of alike ones". */
    private static void lostFewestOfAlike() {
        Due.due("1 or 2 lost", lostOf(60, 26), 1);
        Due.due("3 or 4 lost", lostOf(60, 25), 3);
        Due.due("5 or 6 lost", lostOf(60, 24), 5);
        Due.due("0 or 1 lost", lostOf(59, 26), 0);
        Due.due("all alike far", lostOf(60, 0), 0);
        // 11 at 7, 8 or 9 leave 8 for certain; of 10 the parts are a third and two, cut.
        StalkRoom x = of(30);
        x.thumb(11, 2, false, 7, 9);
        Due.due("less far by what is cut", x.lost(0, 0), 1);
    }

    /** "(4 at least)": of few stalks fewer than 8 can be lost. */
    private static void lostFourAtLeast() {
        for (int n = 4; n <= 12; n++) {
            for (int k = 2; k <= 8; k += 2) {
                StalkRoom x = of(30);
                x.stalks(n, k, true);
                Fixture.fill(x, 1, 0);
                int due = k > 2 || n < 8 ? 0 : n - 7;
                Due.due("a 0 of " + n + " by " + k, x.lost(1, 0), due);
            }
        }
        for (int line : new int[] {0, 1, 7, 30}) {
            StalkRoom x = of(line);
            x.stalks(4, 2, false);
            x.thumb(4, 8, true, 1, 1);
            Due.due("nothing of 4 can be lost", x.lost(0, 0), 0);
            Due.due("nothing of 4 can be lost, thumb", x.lost(0, 1), 0);
        }
    }

    private static StalkRoom toBeTold() {
        StalkRoom x = new StalkRoom();
        x.caster(false);
        x.caster(true);
        x.stalks(4, 2, true);
        x.stalks(12, 3, true);
        x.stalks(26, 8, false);
        x.stalks(24, 7, false);
        x.thumb(28, 8, false, 7, 25);
        x.thumb(4, 8, false, 59, 59);
        return x;
    }

    /** Casters whose parts hardly differ: 0 and 1 by 2 millionths, 2 and 3 by 9. */
    private static StalkRoom hardlyToBeTold() {
        StalkRoom x = new StalkRoom();
        x.thumb(24, 7, false, 1, 22);
        x.thumb(29, 8, true, 2, 22);
        x.thumb(30, 8, false, 2, 21);
        x.thumb(29, 7, true, 1, 18);
        return x;
    }

    /** "the least n so that n times the sum .. is 10000000 or more"; "NONE: their PARTS are alike". */
    private static void needs() {
        need("no line in common: the least", toBeTold(), 0, 2, 2000000, 5);
        need("kind 0 and coins: just 10000000", toBeTold(), 0, 1, 1250000, 8);
        need("just 10000000 of little", toBeTold(), 3, 4, 32, 312500);
        need("more than 10000000 of little", toBeTold(), 5, 6, 12, 833334);
        need("just 10000000 of least", hardlyToBeTold(), 0, 1, 2, 5000000);
        // 1111111 would be 9999999, one too few.
        need("one more than 9999999", hardlyToBeTold(), 2, 3, 9, 1111112);
        StalkRoom x = toBeTold();
        for (int c = 0; c < 8; c++) {
            Due.due("need(" + c + ", " + c + ")", x.need(c, c), NONE);
        }
        Due.due("need of unlike kinds, alike parts", x.need(2, 7), NONE);
        Due.due("the other way", x.need(7, 2), NONE);
        Due.due("no finding", x.finding(), 0);
    }

    private static void need(String what, StalkRoom x, int one, int other, long sum, int due) {
        long differ = 0;
        for (int v = 0; v <= 30; v++) {
            x.odds(one, v);
            long parts = 1000000 * x.upper() / x.lower();
            x.odds(other, v);
            differ += Math.abs(parts - 1000000 * x.upper() / x.lower());
        }
        Due.due("the sum, " + what, differ, sum);
        Due.due("need, " + what, x.need(one, other), due);
        Due.due("need the other way, " + what, x.need(other, one), due);
    }
}
