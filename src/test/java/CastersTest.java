/** Promises 1 to 11: the new object and casters. Findings: 2 BEYOND, 3 UNLIKE. */
public final class CastersTest {
    private static final int BAD = StalkRoom.BAD, FULL = StalkRoom.FULL, NONE = StalkRoom.NONE;

    public static void main(String[] args) {
        promise1New();
        promise2Caster();
        promise3Stalks();
        promise4Thumb();
        promise5Told();
        promise6Mark();
        promise7Part();
        promise8Line();
        promise9Odds();
        promise10Mean();
        promise11Drawn();
        Due.end();
    }

    private static void promise1New() {
        StalkRoom x = new StalkRoom();
        long h = 17;
        for (int i = 0; i < 48; i++) {
            h = 31 * h + 8;
        }
        for (int i = 0; i < 4; i++) {
            h = 31 * h - 1;
        }
        Due.due("new digest()", x.digest(), h);
        Due.due("new count(0)", x.count(0), 0);
        Due.due("new count(1)", x.count(1), 0);
        Due.due("new count(2)", x.count(2), 0);
        Due.due("new told(0, 0)", x.told(0, 0), BAD);
        Due.due("new asked()", x.asked(), 0);
        Due.due("new upper()", x.upper(), 0);
        Due.due("new lower()", x.lower(), 1);
        Due.due("new finding()", x.finding(), 0);
        Due.due("new step(0)", x.step(0), NONE);
        for (int f = 0; f < 8; f++) {
            Due.due("new number", x.number(f), 0);
            Due.due("new get", x.get(f, 5), 8);
        }
        for (int r = 0; r < 4; r++) {
            Due.finding("new lacks", x, x.lacks(r), 1);
        }
        StalkRoom other = new StalkRoom();
        x.caster(true);
        x.row(0, 3);
        x.set(0, 0, 9);
        Due.due("another object's digest()", other.digest(), h);
    }

    private static void promise2Caster() {
        StalkRoom x = new StalkRoom();
        for (int c = 0; c < 10; c++) {
            Due.due("caster", x.caster(c % 2 == 1), c);
            Due.due("its kind", x.told(c, 0), c % 2 == 1 ? 2 : 0);
        }
        Due.due("caster, full", x.caster(false), FULL);
        Due.due("coins, full", x.caster(true), FULL);
        Due.due("count(0), full", x.count(0), 10);
    }

    private static void promise3Stalks() {
        StalkRoom x = new StalkRoom();
        Due.due("stalks(3, 2, false)", x.stalks(3, 2, false), BAD);
        Due.due("stalks(61, 2, false)", x.stalks(61, 2, false), BAD);
        Due.due("stalks(-49, 4, false)", x.stalks(-49, 4, false), BAD);
        Due.due("stalks(49, 1, false)", x.stalks(49, 1, false), BAD);
        Due.due("stalks(49, 9, false)", x.stalks(49, 9, false), BAD);
        Due.due("stalks(49, 0, false)", x.stalks(49, 0, false), BAD);
        Due.due("no stalks came", x.count(0), 0);
        Due.due("stalks(4, 8, false)", x.stalks(4, 8, false), 0);
        Due.due("stalks(60, 2, true)", x.stalks(60, 2, true), 1);
        for (int c = 2; c < 10; c++) {
            Due.due("stalks", x.stalks(49, 4, true), c);
        }
        Due.due("stalks, full", x.stalks(49, 4, true), FULL);
        Due.due("bad stalks, full", x.stalks(3, 4, true), BAD);
    }

    private static void promise4Thumb() {
        StalkRoom x = new StalkRoom();
        Due.due("thumb, n 3", x.thumb(3, 2, false, 1, 1), BAD);
        Due.due("thumb, n 61", x.thumb(61, 2, false, 1, 1), BAD);
        Due.due("thumb, k 1", x.thumb(10, 1, false, 1, 1), BAD);
        Due.due("thumb, k 9", x.thumb(10, 9, false, 1, 1), BAD);
        Due.due("thumb, lo 0", x.thumb(10, 2, false, 0, 1), BAD);
        Due.due("thumb, lo 60", x.thumb(10, 2, false, 60, 60), BAD);
        Due.due("thumb, hi 60", x.thumb(10, 2, false, 1, 60), BAD);
        Due.due("thumb, hi below lo", x.thumb(10, 2, false, 5, 4), BAD);
        Due.due("no thumb came", x.count(0), 0);
        Due.due("thumb, edges", x.thumb(4, 2, false, 1, 59), 0);
        Due.due("thumb, last place", x.thumb(60, 8, true, 59, 59), 1);
        Due.due("its kind", x.told(1, 0), 3);
        for (int c = 2; c < 10; c++) {
            Due.due("thumb", x.thumb(49, 4, true, 20, 24), c);
        }
        Due.due("thumb, full", x.thumb(49, 4, true, 20, 24), FULL);
        Due.due("bad thumb, full", x.thumb(49, 4, true, 24, 20), BAD);
    }

    private static StalkRoom allKinds() {
        StalkRoom x = new StalkRoom();
        x.caster(false);
        x.stalks(49, 4, true);
        x.caster(true);
        x.thumb(10, 3, false, 2, 4);
        return x;
    }

    private static void promise5Told() {
        StalkRoom x = allKinds();
        int[][] want = {{0, NONE, NONE, NONE}, {1, 49, 4, 1}, {2, NONE, NONE, NONE}, {3, 10, 3, 0}};
        for (int c = 0; c < 4; c++) {
            for (int what = 0; what < 4; what++) {
                Due.due("told(" + c + ", " + what + ")", x.told(c, what), want[c][what]);
            }
        }
        Due.due("told(-1, 0)", x.told(-1, 0), BAD);
        Due.due("told(4, 0)", x.told(4, 0), BAD);
        Due.due("told(10, 0)", x.told(10, 0), BAD);
        Due.due("told(0, -1)", x.told(0, -1), BAD);
        Due.due("told(1, 4)", x.told(1, 4), BAD);
    }

    private static void promise6Mark() {
        StalkRoom x = allKinds();
        Due.due("mark(1, 1)", x.mark(1, 1), 44);
        Due.due("mark(2, 2)", x.mark(2, 2), 4);
        // 10 at 1, by 3: nothing of 1, 6 of 9.
        Due.due("mark(3, 1)", x.mark(3, 1), 6);
        Due.due("mark(3, 3)", x.mark(3, 3), 3);
        Due.due("thumb cut by n", x.thumb(10, 3, false, 8, 40), 4);
        Due.due("mark(4, 3)", x.mark(4, 3), 2);
        Due.due("thumb beyond n", x.thumb(10, 3, false, 10, 40), 5);
        Due.due("mark(5, 3)", x.mark(5, 3), 1);
        Due.due("thumb up to n", x.thumb(10, 2, false, 8, 10), 6);
        Due.due("mark(6, 3)", x.mark(6, 3), 2);
        // 10 at 1, by 2: nothing of 1, 8 of 9; at 8, the thumb's first place, it would be 6.
        Due.due("mark(6, 1)", x.mark(6, 1), 8);
        int[][] unlike = {{0, 1}, {0, 2}, {0, 3}, {1, 2}, {1, 3}, {2, 1}, {2, 3}, {3, 2}};
        for (int[] u : unlike) {
            Due.finding("mark(" + u[0] + ", " + u[1] + ")", x, x.mark(u[0], u[1]), 3);
        }
        Due.due("findings(3)", x.findings(3), unlike.length);
        Due.due("mark(0, 0)", x.mark(0, 0), BAD);
        Due.due("mark(1, 4)", x.mark(1, 4), BAD);
        Due.due("mark(1, -1)", x.mark(1, -1), BAD);
        Due.due("mark(7, 1)", x.mark(7, 1), BAD);
        Due.due("mark(-1, 1)", x.mark(-1, 1), BAD);
    }

    private static void promise7Part() {
        StalkRoom x = allKinds();
        x.stalks(60, 2, false);
        x.stalks(60, 8, true);
        x.stalks(4, 2, true);
        Due.due("part(1, 49, 1)", x.part(1, 49, 1), 44);
        Due.due("part(1, 49, 24)", x.part(1, 49, 24), 40);
        // The thumb's places bind its odds, not the partings that are asked for.
        Due.due("part(3, 10, 4)", x.part(3, 10, 4), 6);
        Due.due("part(3, 10, 9)", x.part(3, 10, 9), 6);
        Due.due("part(4, 60, 30)", x.part(4, 60, 30), 56);
        Due.due("part(4, 60, 1)", x.part(4, 60, 1), 58);
        Due.due("part(5, 60, 59)", x.part(5, 60, 59), 56);
        Due.due("part(6, 2, 1)", x.part(6, 2, 1), 0);
        Due.due("part(6, 3, 1)", x.part(6, 3, 1), 0);
        Due.due("part(6, 1, -7)", x.part(6, 1, -7), 1);
        Due.due("part(6, 0, 7)", x.part(6, 0, 7), 0);
        Due.finding("part(6, 2, 2)", x, x.part(6, 2, 2), 2);
        Due.finding("part(6, 2, 0)", x, x.part(6, 2, 0), 2);
        Due.finding("part(0, 2, 2)", x, x.part(0, 2, 2), 3);
        Due.finding("part(2, 1, 1)", x, x.part(2, 1, 1), 3);
        Due.due("part(0, 61, 1)", x.part(0, 61, 1), BAD);
        Due.due("part(1, -1, 1)", x.part(1, -1, 1), BAD);
        Due.due("part(7, 5, 1)", x.part(7, 5, 1), BAD);
    }

    private static void promise8Line() {
        StalkRoom x = allKinds();
        x.stalks(60, 2, false);
        x.stalks(4, 2, true);
        Due.due("line(1, 24, 20, 17)", x.line(1, 24, 20, 17), 7);
        Due.due("line(1, 1, 1, 1)", x.line(1, 1, 1, 1), 9);
        Due.due("line(4, 1, 1, 1)", x.line(4, 1, 1, 1), 27);
        Due.due("line(5, 1, 99, -99), nothing left to part", x.line(5, 1, 99, -99), 0);
        Due.finding("line(1, 0, 1, 1)", x, x.line(1, 0, 1, 1), 2);
        Due.finding("line(1, 49, 1, 1)", x, x.line(1, 49, 1, 1), 2);
        Due.finding("line(1, 1, 44, 1)", x, x.line(1, 1, 44, 1), 2);
        Due.finding("line(1, 1, 1, 40)", x, x.line(1, 1, 1, 40), 2);
        Due.finding("line(0, 0, 0, 0)", x, x.line(0, 0, 0, 0), 3);
        Due.finding("line(2, 1, 1, 1)", x, x.line(2, 1, 1, 1), 3);
        Due.due("line(6, 1, 1, 1)", x.line(6, 1, 1, 1), BAD);
        Due.due("line(-1, 1, 1, 1)", x.line(-1, 1, 1, 1), BAD);
    }

    private static void promise9Odds() {
        StalkRoom x = allKinds();
        x.stalks(8, 2, false);
        x.thumb(8, 2, false, 2, 3);
        Due.fraction("odds(0, 7)", x, x.odds(0, 7), 1, 1);
        Due.fraction("odds(0, 8)", x, x.odds(0, 8), 0, 1);
        Due.fraction("odds(1, 6)", x, x.odds(1, 6), 77, 1612);
        Due.fraction("odds(1, 9)", x, x.odds(1, 9), 5957, 26832);
        Due.fraction("odds(1, 10)", x, x.odds(1, 10), 0, 1);
        Due.fraction("odds(2, 6)", x, x.odds(2, 6), 1, 8);
        Due.fraction("odds(2, 7)", x, x.odds(2, 7), 3, 8);
        Due.fraction("odds(2, 8)", x, x.odds(2, 8), 3, 8);
        Due.fraction("odds(2, 9)", x, x.odds(2, 9), 1, 8);
        Due.fraction("odds(2, 5)", x, x.odds(2, 5), 0, 1);
        Due.fraction("odds(4, 1)", x, x.odds(4, 1), 8, 35);
        Due.fraction("odds(4, 0)", x, x.odds(4, 0), 27, 35);
        Due.fraction("odds(4, 30)", x, x.odds(4, 30), 0, 1);
        Due.fraction("odds(5, 1)", x, x.odds(5, 1), 1, 8);
        Due.fraction("odds(5, 0)", x, x.odds(5, 0), 7, 8);
        Due.due("odds(0, 31)", x.odds(0, 31), BAD);
        Due.due("odds(0, -1)", x.odds(0, -1), BAD);
        Due.due("odds(6, 7)", x.odds(6, 7), BAD);
        Due.due("upper() behind BAD", x.upper(), 7);
        Due.due("lower() behind BAD", x.lower(), 8);
    }

    private static void promise10Mean() {
        StalkRoom x = allKinds();
        x.stalks(8, 2, false);
        x.stalks(4, 8, true);
        Due.fraction("mean(0)", x, x.mean(0), 7, 1);
        Due.fraction("mean(1)", x, x.mean(1), 76160493, 9704240);
        Due.fraction("mean(2)", x, x.mean(2), 15, 2);
        Due.fraction("mean(4)", x, x.mean(4), 8, 35);
        Due.fraction("mean(5)", x, x.mean(5), 0, 1);
        Due.due("mean(6)", x.mean(6), BAD);
        Due.due("mean(-1)", x.mean(-1), BAD);
    }

    private static void promise11Drawn() {
        StalkRoom x = allKinds();
        Due.due("drawn(0, 5)", x.drawn(0, 5), 7);
        Due.due("drawn(1, 1)", x.drawn(1, 1), 8);
        Due.due("drawn(1, 2)", x.drawn(1, 2), 7);
        Due.due("drawn(2, 77)", x.drawn(2, 77), 9);
        int[] ofSide = {6, 7, 7, 7, 8, 8, 8, 9};
        for (long s = -40; s < 40; s++) {
            long next = s * 6364136223846793005L + 1442695040888963407L;
            Due.due("coins drawn with " + s, x.drawn(2, s), ofSide[(int) ((next >>> 33) % 8)]);
        }
        StalkRoom y = new StalkRoom();
        y.stalks(10, 2, false);
        for (long s = 0; s < 40; s++) {
            int[] a = new int[3];
            long next = s;
            int n = 10;
            for (int i = 0; i < 3 && n >= 2; i++) {
                next = next * 6364136223846793005L + 1442695040888963407L;
                a[i] = 1 + (int) ((next >>> 33) % (n - 1));
                n = y.part(0, n, a[i]);
            }
            Due.due("stalks drawn with " + s, y.drawn(0, s), y.line(0, a[0], a[1], a[2]));
        }
        Due.due("drawn(4, 0)", x.drawn(4, 0), BAD);
        Due.due("drawn(-1, 0)", x.drawn(-1, 0), BAD);
    }
}
