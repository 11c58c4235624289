/** Sentences of section 2 and promises 12 to 18 that name an edge, each with a test of its own. */
public final class FigureEdgesTest {
    private static final int STATE = StalkRoom.STATE, NONE = StalkRoom.NONE, BAD = StalkRoom.BAD;
    private static final int MIN = Integer.MIN_VALUE, MAX = Integer.MAX_VALUE;

    public static void main(String[] args) {
        brokenAtFirst();
        everyLineOfEveryFigure();
        eachBitOfANumber();
        changedOfEachLine();
        turnedFromEndToEnd();
        oppositeOfEachLine();
        nestedLeavesTheOutermost();
        actToAnotherAndToItself();
        drawnFigures();
        aLineThatNoFigureHas();
        eachActAlone();
        wayToItself();
        wayWithNothingLet();
        longestWay();
        firstOfAlikeWays();
        stepOfTheLatestWay();
        Due.end();
    }

    private static void lines(String call, StalkRoom x, int f, int... want) {
        for (int i = 0; i < 6; i++) {
            Due.due(call + ", line " + i, x.get(f, i), want[i]);
        }
    }

    private static int[] all(int line) {
        return new int[] {line, line, line, line, line, line};
    }

    /** "8 at first"; "FIGURES of broken LINES". */
    private static void brokenAtFirst() {
        StalkRoom x = new StalkRoom();
        for (int f = 0; f < 8; f++) {
            lines("figure " + f + " at first", x, f, all(8));
            Due.due("number(" + f + ") at first", x.number(f), 0);
        }
        Due.due("count(2) at first", x.count(2), 0);
    }

    /** "LINE i of a FIGURE is v (6 .. 9): what it was": no other line moves. */
    private static void everyLineOfEveryFigure() {
        for (int f = 0; f < 8; f++) {
            for (int i = 0; i < 6; i++) {
                StalkRoom x = new StalkRoom();
                int was = 8;
                for (int v : new int[] {6, 9, 7, 8, 8, 6}) {
                    String call = "set(" + f + ", " + i + ", " + v + ")";
                    Due.due(call, x.set(f, i, v), was);
                    Due.due(call + ": get", x.get(f, i), v);
                    Due.due(call + ": digest", x.digest(), digestWith(6 * f + i, v));
                    was = v;
                }
            }
        }
    }

    private static long digestWith(int at, int line) {
        long h = 17;
        for (int i = 0; i < 48; i++) {
            h = 31 * h + (i == at ? line : 8);
        }
        return (((h * 31 - 1) * 31 - 1) * 31 - 1) * 31 - 1;
    }

    /** "bits 0 to 5: 1 for whole LINES (7, 9)". */
    private static void eachBitOfANumber() {
        for (int i = 0; i < 6; i++) {
            StalkRoom x = new StalkRoom();
            for (int v = 6; v <= 9; v++) {
                x.set(7, i, v);
                Due.due("number, line " + i + " is " + v, x.number(7), v == 7 || v == 9 ? 1 << i : 0);
            }
        }
        StalkRoom x = new StalkRoom();
        int[] want = {0, 63, 0, 63};
        for (int v = 6; v <= 9; v++) {
            Fixture.lines(x, 0, all(v));
            Due.due("number, all lines " + v, x.number(0), want[v - 6]);
        }
    }

    /** "CHANGED: 6 becomes 7, 9 becomes 8", and 7 and 8 stay. */
    private static void changedOfEachLine() {
        StalkRoom x = new StalkRoom();
        int[] line = {7, 7, 8, 8};
        int[] number = {63, 63, 0, 0};
        for (int v = 6; v <= 9; v++) {
            Fixture.lines(x, 0, all(v));
            Due.due("changed, all lines " + v, x.act(0, 0, 1), number[v - 6]);
            lines("changed, all lines " + v, x, 1, all(line[v - 6]));
            Due.due("changed again", x.act(1, 0, 1), number[v - 6]);
            lines("changed again", x, 1, all(line[v - 6]));
        }
    }

    /** "LINE i becomes LINE 5 - i". */
    private static void turnedFromEndToEnd() {
        for (int i = 0; i < 6; i++) {
            for (int v : new int[] {6, 7, 9}) {
                StalkRoom x = new StalkRoom();
                x.set(0, i, v);
                int[] want = all(8);
                want[5 - i] = v;
                Due.due("turned, line " + i, x.act(0, 1, 0), v == 6 ? 0 : 32 >> i);
                lines("turned, line " + i, x, 0, want);
                Due.due("turned twice", x.act(0, 1, 0), v == 6 ? 0 : 1 << i);
                Due.due("turned twice, line " + i, x.get(0, i), v);
            }
        }
    }

    /** "6 and 9, 7 and 8 change places". */
    private static void oppositeOfEachLine() {
        StalkRoom x = new StalkRoom();
        for (int v = 6; v <= 9; v++) {
            Fixture.lines(x, 0, all(v));
            Due.due("opposite, all lines " + v, x.act(0, 2, 0), v == 6 || v == 8 ? 63 : 0);
            lines("opposite, all lines " + v, x, 0, all(new int[] {9, 8, 7, 6}[v - 6]));
            Due.due("opposite twice", x.act(0, 2, 0), v == 6 || v == 8 ? 0 : 63);
            lines("opposite twice", x, 0, all(v));
        }
    }

    /** "NESTED: its LINES are LINES 1, 2, 3, 2, 3, 4": the lowest and the highest are gone. */
    private static void nestedLeavesTheOutermost() {
        int[] number = {0, 1, 2 + 8, 4 + 16, 32, 0};
        for (int i = 0; i < 6; i++) {
            StalkRoom x = new StalkRoom();
            x.set(0, i, 9);
            Due.due("nested, line " + i, x.act(0, 3, 1), number[i]);
            for (int at = 0; at < 6; at++) {
                Due.due("nested, line " + i + ", then " + at, x.get(1, at), (number[i] >> at & 1) == 1 ? 9 : 8);
            }
        }
    }

    /** "comes to a FIGURE (perhaps itself)". */
    private static void actToAnotherAndToItself() {
        int[] of = {6, 7, 8, 9, 9, 7};
        int[][] want = {{7, 7, 8, 8, 8, 7}, {7, 9, 9, 8, 7, 6}, {9, 8, 7, 6, 6, 8}, {7, 8, 9, 8, 9, 9}};
        int[] number = {1 + 2 + 32, 1 + 2 + 4 + 16, 1 + 4, 1 + 4 + 16 + 32};
        for (int act = 0; act < 4; act++) {
            for (int to = 0; to < 8; to++) {
                StalkRoom x = new StalkRoom();
                Fixture.lines(x, 3, of);
                String call = "act(3, " + act + ", " + to + ")";
                Due.due(call, x.act(3, act, to), number[act]);
                lines(call, x, to, want[act]);
                Due.due(call + ": number", x.number(to), number[act]);
                if (to != 3) {
                    lines(call + ": the figure itself", x, 3, of);
                }
                lines(call + ": another one", x, to == 5 ? 6 : 5, all(8));
            }
        }
    }

    /** "how many of its LINES are 6 or 9": none, or all six. */
    private static void drawnFigures() {
        for (int f = 0; f < 8; f += 7) {
            StalkRoom x = new StalkRoom();
            x.caster(true);
            x.caster(false);
            Due.due("draw, all lines old", x.draw(f, 0, 4602), 6);
            lines("draw, all lines old", x, f, 6, 6, 9, 6, 9, 9);
            Due.due("count(2), all lines old", x.count(2), 6);
            Due.due("draw, no line old", x.draw(f, 1, 4602), 0);
            lines("draw, no line old", x, f, all(7));
            Due.due("count(2), no line old", x.count(2), 0);
        }
    }

    /** "STATE: a LINE came that is not 6 to 9 (nothing changes)": 5 and 10, as the first line or as the last. */
    private static void aLineThatNoFigureHas() {
        long[] seeds = {22, 40, 28, 15};
        int[][] came = {{7, 8, 8, 7, 8, 5}, {5, 6, 6, 7, 6, 7}, {8, 8, 8, 9, 9, 10}, {10, 9, 8, 9, 8, 9}};
        for (int i = 0; i < seeds.length; i++) {
            StalkRoom x = new StalkRoom();
            x.stalks(42, 4, false);
            x.stalks(50, 4, false);
            int caster = i < 2 ? 0 : 1;
            x.record(0, caster, seeds[i], 6);
            Fixture.bytes("the lines that came with " + seeds[i], x, 0, came[i]);
            Fixture.lines(x, 2, 6, 7, 8, 9, 6, 7);
            int finding = x.finding();
            long before = x.digest();
            Due.due("draw with " + seeds[i], x.draw(2, caster, seeds[i]), STATE);
            Due.due("digest() behind it", x.digest(), before);
            Due.due("finding() behind it", x.finding(), finding);
            lines("draw with " + seeds[i], x, 2, 6, 7, 8, 9, 6, 7);
        }
        // The greatest and the least that figures have: 9 and 6 come, and the figure with them.
        StalkRoom x = new StalkRoom();
        x.stalks(50, 4, false);
        x.stalks(46, 4, true);
        Due.due("draw of 8s and 9s", x.draw(0, 0, 0), 5);
        lines("draw of 8s and 9s", x, 0, 9, 9, 8, 9, 9, 9);
        Due.due("draw with a 6", x.draw(0, 1, 0), 1);
        lines("draw with a 6", x, 0, 7, 7, 8, 6, 7, 8);
    }

    /** "bits 0 to 5: that LINE changes from broken to whole or back; 6 TURNED, 7 OPPOSITE, 8 NESTED". */
    private static void eachActAlone() {
        int[] from = {0, 0, 0, 0, 0, 0, 11, 11, 11};
        int[] to = {1, 2, 4, 8, 16, 32, 52, 52, 21};
        for (int act = 0; act < 9; act++) {
            StalkRoom x = new StalkRoom();
            Due.due("way by act " + act, x.way(from[act], to[act], 1 << act), 1);
            Due.due("its step(0)", x.step(0), act);
            Due.due("its step(1)", x.step(1), NONE);
            Due.due("way back by act " + act, x.way(to[act], from[act], 1 << act), act == 8 ? NONE : 1);
            for (int other = 0; other < 9; other++) {
                boolean leads = from[act] == from[other] && to[act] == to[other];
                Due.due("way of act " + act + " by " + other, x.way(from[act], to[act], 1 << other), leads ? 1 : NONE);
            }
        }
    }

    /** From a number to itself no act is needed, whatever is let. */
    private static void wayToItself() {
        for (int at : new int[] {0, 21, 63}) {
            for (int let : new int[] {0, 1, 256, 511}) {
                StalkRoom x = new StalkRoom();
                x.way(0, 63, 63);
                Due.due("way(" + at + ", " + at + ", " + let + ")", x.way(at, at, let), 0);
                Due.due("its step(0)", x.step(0), NONE);
            }
        }
    }

    /** "NONE: none leads there." */
    private static void wayWithNothingLet() {
        StalkRoom x = new StalkRoom();
        Due.due("way(0, 63, 0)", x.way(0, 63, 0), NONE);
        Due.due("way(63, 0, 0)", x.way(63, 0, 0), NONE);
        Due.due("way(0, 63, 31), line 5 is not let", x.way(0, 63, 31), NONE);
        Due.due("way(0, 1, 320), 0 turned and nested is 0", x.way(0, 1, 320), NONE);
        Due.due("no finding", x.finding(), 0);
    }

    /** "the fewest": no way at all needs more than 11 acts, and one that does is told to its last. */
    private static void longestWay() {
        StalkRoom x = new StalkRoom();
        Due.due("way(0, 45, 324)", x.way(0, 45, 324), 11);
        int[] acts = {2, 6, 2, 8, 2, 6, 2, 8, 2, 6, 2};
        int at = 0;
        for (int i = 0; i < acts.length; i++) {
            Due.due("its step(" + i + ")", x.step(i), acts[i]);
            at = acts[i] == 2 ? at ^ 4 : acts[i] == 6 ? Integer.reverse(at) >>> 26 : (at >> 1 & 7) | (at >> 2 & 7) << 3;
        }
        Due.due("where it leads", at, 45);
        Due.due("its step(11)", x.step(11), NONE);
        int longest = 0;
        for (int let = 0; let < 512; let++) {
            for (int from = 0; from < 64; from++) {
                StalkRoom y = new StalkRoom();
                for (int to = 0; to < 64; to++) {
                    longest = Math.max(longest, y.way(from, to, let));
                }
            }
        }
        Due.due("the longest of all ways", longest, 11);
    }

    /** "Of all such rows of ACTS the first (ACT by ACT, the lesser bit first)." */
    private static void firstOfAlikeWays() {
        int[][] due = {
            // Lines in their order, though any order leads there.
            {0, 63, 63, 0, 1, 2, 3, 4, 5}, {63, 0, 63, 0, 1, 2, 3, 4, 5}, {0, 56, 63, 3, 4, 5},
            // One line, or a turn: the line first.
            {0, 1, 511, 0}, {1, 32, 511, 6}, {3, 48, 511, 6},
            // 12 turned, opposite or nested: 12, 51, 30.
            {12, 51, 448, 7}, {12, 30, 448, 8},
            // A turn that is the opposite, too: the turn first.
            {7, 56, 511, 6}, {21, 42, 511, 6}, {21, 42, 384, 7}, {21, 42, 256, 8},
            // Turned and opposite in either order.
            {1, 31, 192, 6, 7}, {3, 15, 192, 6, 7},
            {37, 12, 511, 0, 3, 5},
        };
        for (int[] d : due) {
            StalkRoom x = new StalkRoom();
            String call = "way(" + d[0] + ", " + d[1] + ", " + d[2] + ")";
            Due.due(call, x.way(d[0], d[1], d[2]), d.length - 3);
            for (int i = 3; i < d.length; i++) {
                Due.due(call + ": step " + (i - 3), x.step(i - 3), d[i]);
            }
            Due.due(call + ": no more", x.step(d.length - 3), NONE);
        }
    }

    /** "ACT i (its bit) of the latest way() that was not refused; NONE: none such". */
    private static void stepOfTheLatestWay() {
        StalkRoom x = new StalkRoom();
        for (int i : new int[] {MIN, -1, 0, 1, MAX}) {
            Due.due("step(" + i + ") before any way", x.step(i), NONE);
        }
        Due.due("way(0, 7, 7)", x.way(0, 7, 7), 3);
        for (int i : new int[] {MIN, -1, 3, 4, 63, 64, MAX}) {
            Due.due("step(" + i + ") of three", x.step(i), NONE);
        }
        int[][] bad = {{64, 0, 7}, {-1, 0, 7}, {0, 64, 7}, {0, -1, 7}, {0, 0, 512}, {0, 0, -1}};
        for (int[] b : bad) {
            Due.due("a refused way", x.way(b[0], b[1], b[2]), BAD);
            for (int i = 0; i < 3; i++) {
                Due.due("step(" + i + ") behind it", x.step(i), i);
            }
        }
        // A way that is told to be none is not refused: it has no acts.
        Due.due("way(0, 8, 7)", x.way(0, 8, 7), NONE);
        Due.due("step(0) behind it", x.step(0), NONE);
        Due.due("a shorter way", x.way(0, 2, 7), 1);
        Due.due("its step(0)", x.step(0), 1);
        Due.due("its step(1)", x.step(1), NONE);
    }
}
