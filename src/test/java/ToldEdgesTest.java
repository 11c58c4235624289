import java.math.BigInteger;

/** Sentences of promises 32 to 38 that name an edge, and the 512 calls of an object. */
public final class ToldEdgesTest {
    private static final BigInteger WRAP = BigInteger.ONE.shiftLeft(64);

    public static void main(String[] args) {
        beforeAnything();
        askedOfTheLatest();
        fractionsToldLast();
        countsLeastAndGreatest();
        countsOfEachLine();
        findingStays();
        findingsOfEveryCall();
        digestOfNothing();
        digestOfAFullRoom();
        digestChangesNothing();
        fiveHundredAndTwelveCalls();
        Due.end();
    }

    /** "0 before", "1 before", "(0 before any)". */
    private static void beforeAnything() {
        StalkRoom x = new StalkRoom();
        // What is refused does not begin anything.
        x.lacks(0);
        x.follows(-1);
        x.off(0, 0);
        x.odds(0, 0);
        x.mean(0);
        Due.due("asked() before", x.asked(), 0);
        Due.due("upper() before", x.upper(), 0);
        Due.due("lower() before", x.lower(), 1);
        Due.due("step(0) before", x.step(0), StalkRoom.NONE);
        StalkRoom y = new StalkRoom();
        y.odds(0, 0);
        y.row(0, 65);
        y.nearest(0);
        Due.due("finding() behind BAD and STATE", y.finding(), 0);
        for (int f = 1; f <= 5; f++) {
            Due.due("findings(" + f + ") behind BAD and STATE", y.findings(f), 0);
        }
    }

    /** "What the latest follows(), lacks(), off() that was not refused told". */
    private static void askedOfTheLatest() {
        StalkRoom x = new StalkRoom();
        x.caster(false);
        Fixture.fill(x, 0, 0, 0);
        x.row(1, 0);
        Due.due("lacks(0)", x.lacks(0), 63);
        Due.due("asked() of lacks", x.asked(), -2);
        Due.due("follows(0)", x.follows(0), 0);
        Due.due("asked() of follows", x.asked(), 1);
        Due.due("off(0, 0)", x.off(0, 0), 1);
        Due.due("asked() of off", x.asked(), 2000000);
        x.nearest(0);
        x.misfits(0, 0);
        x.swapped(0, 0);
        x.need(0, 0);
        x.odds(0, 7);
        x.mean(0);
        Due.due("asked() behind what tells nothing by it", x.asked(), 2000000);
        x.off(1, 0);
        x.off(2, 0);
        x.off(0, 1);
        x.lacks(2);
        x.lacks(4);
        x.follows(2);
        x.follows(-1);
        Due.due("asked() behind what was refused", x.asked(), 2000000);
        Due.due("follows(1)", x.follows(1), 0);
        Due.due("asked() of none", x.asked(), 0);
        Due.due("lacks(1)", x.lacks(1), 64);
        Due.due("asked() of all", x.asked(), -1);
    }

    /** "The upper number of the fraction that was told last", "Its lower number". */
    private static void fractionsToldLast() {
        StalkRoom x = new StalkRoom();
        x.caster(true);
        x.stalks(4, 2, true);
        Due.fraction("odds(0, 7)", x, x.odds(0, 7), 3, 8);
        Due.fraction("odds(0, 30), none", x, x.odds(0, 30), 0, 1);
        Due.fraction("mean(0)", x, x.mean(0), 15, 2);
        Due.fraction("mean(1), none", x, x.mean(1), 0, 1);
        Due.fraction("odds(1, 0), all", x, x.odds(1, 0), 1, 1);
        Due.fraction("mean(0)", x, x.mean(0), 15, 2);
        x.row(0, 1);
        x.odds(0, 31);
        x.odds(0, -1);
        x.odds(2, 7);
        x.mean(2);
        x.mean(-1);
        x.off(0, 0);
        x.nearest(0);
        x.lost(0, 1);
        x.need(0, 1);
        Due.due("upper() behind what tells no fraction", x.upper(), 15);
        Due.due("lower() behind what tells no fraction", x.lower(), 2);
    }

    /** "0 CASTERS, 1 ROWS that are there, 2 old LINES (6, 9) of all FIGURES": none of them, and all. */
    private static void countsLeastAndGreatest() {
        StalkRoom x = new StalkRoom();
        for (int what = 0; what < 3; what++) {
            Due.due("count(" + what + "), none", x.count(what), 0);
        }
        for (int i = 1; i <= 48; i++) {
            x.set((i - 1) / 6, (i - 1) % 6, i % 2 == 0 ? 6 : 9);
            Due.due("count(2), " + i, x.count(2), i);
        }
        for (int r = 1; r <= 4; r++) {
            x.row(r - 1, r % 2 == 0 ? 0 : 64);
            Due.due("count(1), " + r, x.count(1), r);
        }
        for (int c = 1; c <= 10; c++) {
            x.stalks(49, 4, true);
            Due.due("count(0), " + c, x.count(0), c);
        }
        x.stalks(49, 4, true);
        Due.due("count(0), full", x.count(0), 10);
        x.row(0, 5);
        Due.due("count(1), a row anew", x.count(1), 4);
        for (int r = 3; r >= 0; r--) {
            x.tear(r);
            Due.due("count(1), torn", x.count(1), r);
        }
    }

    private static void countsOfEachLine() {
        StalkRoom x = new StalkRoom();
        for (int v = 6; v <= 9; v++) {
            x.set(7, 5, v);
            Due.due("count(2), a line " + v, x.count(2), v == 6 || v == 9 ? 1 : 0);
        }
    }

    /** "The latest FINDING": what goes well or is refused otherwise leaves it. */
    private static void findingStays() {
        StalkRoom x = new StalkRoom();
        Due.finding("SIZE", x, x.row(0, -1), 5);
        x.row(0, 64);
        x.row(0, 65);
        x.nearest(0);
        x.get(8, 0);
        x.count(3);
        x.findings(6);
        Due.due("finding() stays", x.finding(), 5);
        Due.finding("BEYOND", x, x.lay(0, 64, 0), 2);
        Due.finding("SIZE again", x, x.copy(0, 0, 0, 0, -1), 5);
        Due.due("findings(5)", x.findings(5), 2);
        Due.due("findings(2)", x.findings(2), 1);
    }

    /** "How often a FINDING (1 .. 5) was answered". */
    private static void findingsOfEveryCall() {
        StalkRoom x = Fixture.mixed();
        int[] times = new int[6];
        times[2] = 1;
        int[][] found = {
            {x.mark(0, 1), 3}, {x.part(2, 5, 1), 3}, {x.part(1, 5, 5), 2}, {x.line(0, 1, 1, 1), 3},
            {x.line(1, 49, 1, 1), 2}, {x.set(0, 6, 7), 2}, {x.get(0, -1), 2}, {x.row(3, -1), 5},
            {x.lay(3, 0, 0), 1}, {x.lay(2, 0, 0), 2}, {x.tear(3), 1}, {x.copy(0, 0, 1, 0, -1), 5},
            {x.copy(3, 0, 0, 0, 1), 1}, {x.copy(0, 0, 2, 0, 1), 2}, {x.misfits(3, 0), 1}, {x.follows(3), 1},
            {x.lacks(3), 1}, {x.swapped(3, 0), 1}, {x.off(3, 0), 1}, {x.off(2, 0), 4}, {x.nearest(3), 1},
            {x.nearest(1), 4}, {x.lost(3, 1), 1}, {x.lost(0, 2), 3}, {x.lost(1, 1), 4},
        };
        for (int[] f : found) {
            Due.due("a finding", f[0], StalkRoom.FINDING);
            times[f[1]]++;
        }
        for (int f = 1; f <= 5; f++) {
            Due.due("findings(" + f + ")", x.findings(f), times[f]);
        }
        Due.due("finding()", x.finding(), 4);
    }

    private static long wrapped(int... values) {
        BigInteger h = BigInteger.valueOf(17);
        for (int v : values) {
            h = h.multiply(BigInteger.valueOf(31)).add(BigInteger.valueOf(v)).mod(WRAP);
        }
        return h.longValue();
    }

    /** "of each ROW its size (-1: missing) and bytes": all missing, or all empty. */
    private static void digestOfNothing() {
        int[] values = new int[52];
        java.util.Arrays.fill(values, 0, 48, 8);
        java.util.Arrays.fill(values, 48, 52, -1);
        StalkRoom x = new StalkRoom();
        Due.due("digest() of a new room", x.digest(), wrapped(values));
        for (int r = 0; r < 4; r++) {
            x.row(r, 0);
            values[48 + r] = 0;
            Due.due("digest(), rows empty up to " + r, x.digest(), wrapped(values));
        }
    }

    /** Ten casters, old lines everywhere, and four full rows: h wraps around many times. */
    private static void digestOfAFullRoom() {
        int[] values = new int[40 + 48 + 4 * 65];
        StalkRoom x = new StalkRoom();
        int at = 0;
        for (int c = 0; c < 10; c++) {
            boolean finger = c % 2 == 0;
            int[] told = c < 8 ? new int[] {c < 4 ? 1 : 3, 60 - c, 2 + c % 7, finger ? 1 : 0}
                : new int[] {c == 8 ? 0 : 2, StalkRoom.NONE, StalkRoom.NONE, StalkRoom.NONE};
            if (c < 8) {
                Due.due("caster", c < 4 ? x.stalks(60 - c, 2 + c % 7, finger) : x.thumb(60 - c, 2 + c % 7, finger, c, 59), c);
            } else {
                Due.due("caster", x.caster(c == 9), c);
            }
            for (int v : told) {
                values[at++] = v;
            }
        }
        for (int i = 0; i < 48; i++) {
            values[at++] = 6 + i % 4;
            x.set(i / 6, i % 6, 6 + i % 4);
        }
        for (int r = 0; r < 4; r++) {
            x.row(r, 64);
            values[at++] = 64;
            for (int i = 0; i < 64; i++) {
                values[at++] = (byte) (37 * i + 64 * r - 128);
                x.lay(r, i, 37 * i + 64 * r - 128);
            }
        }
        Due.due("digest() of a full room", x.digest(), wrapped(values));
    }

    private static void digestChangesNothing() {
        StalkRoom x = Fixture.full();
        long h = x.digest();
        Due.due("digest() again", x.digest(), h);
        Due.due("all stays", Fixture.seen(x).equals(Fixture.seen(Fixture.full())) ? 1 : 0, 1);
    }

    /** "An object is used for at most 512 calls": the last of them is answered as the first. */
    private static void fiveHundredAndTwelveCalls() {
        StalkRoom x = new StalkRoom();
        for (int i = 0; i < 510; i++) {
            x.tear(i % 4);
        }
        Due.due("findings(1), the 511th call", x.findings(1), 510);
        Due.due("tear(0), the 512th call", x.tear(0), StalkRoom.FINDING);
        StalkRoom y = new StalkRoom();
        y.stalks(49, 4, true);
        for (int i = 0; i < 509; i++) {
            Due.due("odds, call " + (i + 2), y.odds(0, 6), 1);
        }
        Due.due("upper(), the 511th call", y.upper(), 77);
        Due.due("lower(), the 512th call", y.lower(), 1612);
        StalkRoom z = new StalkRoom();
        for (int i = 0; i < 511; i++) {
            Due.due("way, call " + (i + 1), z.way(0, 45, 324), 11);
        }
        Due.due("step(10), the 512th call", z.step(10), 2);
    }
}
