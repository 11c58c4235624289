/** Promises 12 to 18: figures, acts and ways. Finding 2: BEYOND. */
public final class FiguresTest {
    private static final int BAD = StalkRoom.BAD, STATE = StalkRoom.STATE, NONE = StalkRoom.NONE;

    public static void main(String[] args) {
        promises12And13SetGet();
        promise14Draw();
        promise15Number();
        promise16Act();
        promise17And18WayStep();
        everyWay();
        Due.end();
    }

    private static void lines(String call, StalkRoom x, int f, int... want) {
        for (int i = 0; i < 6; i++) {
            Due.due(call + " line " + i, x.get(f, i), want[i]);
        }
    }

    private static void promises12And13SetGet() {
        StalkRoom x = new StalkRoom();
        Due.due("set(0, 0, 6)", x.set(0, 0, 6), 8);
        Due.due("set(0, 0, 9)", x.set(0, 0, 9), 6);
        Due.due("set(7, 5, 7)", x.set(7, 5, 7), 8);
        Due.due("get(0, 0)", x.get(0, 0), 9);
        Due.due("get(7, 5)", x.get(7, 5), 7);
        Due.due("get(7, 4)", x.get(7, 4), 8);
        Due.due("set(8, 0, 7)", x.set(8, 0, 7), BAD);
        Due.due("set(-1, 0, 7)", x.set(-1, 0, 7), BAD);
        Due.due("set(0, 0, 5)", x.set(0, 0, 5), BAD);
        Due.due("set(0, 0, 10)", x.set(0, 0, 10), BAD);
        Due.due("set(0, 6, 10), BAD ahead", x.set(0, 6, 10), BAD);
        Due.finding("set(0, 6, 7)", x, x.set(0, 6, 7), 2);
        Due.finding("set(0, -1, 7)", x, x.set(0, -1, 7), 2);
        Due.due("get(8, 0)", x.get(8, 0), BAD);
        Due.due("get(-1, 9), BAD ahead", x.get(-1, 9), BAD);
        Due.finding("get(0, 6)", x, x.get(0, 6), 2);
        Due.finding("get(0, -1)", x, x.get(0, -1), 2);
        Due.due("findings(2)", x.findings(2), 4);
    }

    private static void promise14Draw() {
        StalkRoom x = new StalkRoom();
        x.stalks(49, 4, true);
        x.caster(true);
        x.caster(false);
        x.stalks(4, 2, true);
        x.stalks(50, 4, false);
        Due.due("draw(0, 0, 12345)", x.draw(0, 0, 12345), 1);
        Due.due("its lowest line", x.get(0, 0), 9);
        Due.due("its number", x.number(0), 1);
        Due.due("draw(1, 2, 0)", x.draw(1, 2, 0), 0);
        lines("draw(1, 2, 0)", x, 1, 7, 7, 7, 7, 7, 7);
        int[] ofSide = {6, 7, 7, 7, 8, 8, 8, 9};
        int old = 0;
        int[] want = new int[6];
        long s = 4711;
        for (int i = 0; i < 6; i++) {
            s = s * 6364136223846793005L + 1442695040888963407L;
            want[i] = ofSide[(int) ((s >>> 33) % 8)];
            old += want[i] == 6 || want[i] == 9 ? 1 : 0;
        }
        Due.due("draw(7, 1, 4711)", x.draw(7, 1, 4711), old);
        lines("draw(7, 1, 4711)", x, 7, want);
        Due.due("draw(6, 1, 11)", x.draw(6, 1, 11), 3);
        lines("draw(6, 1, 11)", x, 6, 6, 7, 9, 6, 8, 7);
        long before = x.digest();
        Due.due("draw(7, 3, 1), zeros", x.draw(7, 3, 1), STATE);
        // The lines would be 9, 10, 7, 8, 9, 9.
        Due.due("draw(7, 4, 1), one is 10", x.draw(7, 4, 1), STATE);
        Due.due("digest() behind STATE", x.digest(), before);
        Due.due("finding() behind STATE", x.finding(), 0);
        Due.due("draw(8, 3, 1), BAD ahead", x.draw(8, 3, 1), BAD);
        Due.due("draw(-1, 0, 1)", x.draw(-1, 0, 1), BAD);
        Due.due("draw(0, 5, 1)", x.draw(0, 5, 1), BAD);
        Due.due("draw(0, -1, 1)", x.draw(0, -1, 1), BAD);
    }

    private static void promise15Number() {
        StalkRoom x = new StalkRoom();
        Fixture.lines(x, 3, 7, 6, 9, 8, 8, 7);
        Due.due("number(3)", x.number(3), 1 + 4 + 32);
        Due.due("number(2)", x.number(2), 0);
        Fixture.lines(x, 2, 9, 9, 9, 7, 7, 7);
        Due.due("number(2), all whole", x.number(2), 63);
        Due.due("number(8)", x.number(8), BAD);
        Due.due("number(-1)", x.number(-1), BAD);
    }

    private static void promise16Act() {
        StalkRoom x = new StalkRoom();
        Fixture.lines(x, 0, 6, 9, 7, 8, 8, 9);
        Due.due("changed", x.act(0, 0, 1), 1 + 4);
        lines("changed", x, 1, 7, 8, 7, 8, 8, 8);
        Due.due("turned", x.act(0, 1, 2), 1 + 8 + 16);
        lines("turned", x, 2, 9, 8, 8, 7, 9, 6);
        Due.due("opposite", x.act(0, 2, 3), 1 + 8 + 16);
        lines("opposite", x, 3, 9, 6, 8, 7, 7, 6);
        Due.due("nested", x.act(0, 3, 4), 1 + 2 + 8);
        lines("nested", x, 4, 9, 7, 8, 7, 8, 8);
        lines("the figure itself", x, 0, 6, 9, 7, 8, 8, 9);
        Due.due("turned, to itself", x.act(0, 1, 0), 1 + 8 + 16);
        lines("turned, to itself", x, 0, 9, 8, 8, 7, 9, 6);
        Fixture.lines(x, 5, 6, 7, 8, 9, 6, 7);
        Due.due("nested, to itself", x.act(5, 3, 5), 1 + 4 + 16);
        lines("nested, to itself", x, 5, 7, 8, 9, 8, 9, 6);
        long before = x.digest();
        Due.due("act(0, 4, 0)", x.act(0, 4, 0), BAD);
        Due.due("act(0, -1, 0)", x.act(0, -1, 0), BAD);
        Due.due("act(8, 0, 0)", x.act(8, 0, 0), BAD);
        Due.due("act(0, 0, 8)", x.act(0, 0, 8), BAD);
        Due.due("act(-1, 0, 0)", x.act(-1, 0, 0), BAD);
        Due.due("act(0, 0, -1)", x.act(0, 0, -1), BAD);
        Due.due("digest() behind BAD", x.digest(), before);
    }

    private static void promise17And18WayStep() {
        StalkRoom x = new StalkRoom();
        Due.due("step(0) ahead of any way", x.step(0), NONE);
        Due.due("way(0, 63, 63)", x.way(0, 63, 63), 6);
        for (int i = 0; i < 6; i++) {
            Due.due("step(" + i + ")", x.step(i), i);
        }
        Due.due("step(6)", x.step(6), NONE);
        Due.due("step(-1)", x.step(-1), NONE);
        Due.due("way(64, 0, 511)", x.way(64, 0, 511), BAD);
        Due.due("way(0, 64, 511)", x.way(0, 64, 511), BAD);
        Due.due("way(-1, 0, 511)", x.way(-1, 0, 511), BAD);
        Due.due("way(0, -1, 511)", x.way(0, -1, 511), BAD);
        Due.due("way(0, 0, 512)", x.way(0, 0, 512), BAD);
        Due.due("way(0, 0, -1)", x.way(0, 0, -1), BAD);
        Due.due("step(5) behind BAD", x.step(5), 5);
        Due.due("way(0, 63, 511)", x.way(0, 63, 511), 1);
        Due.due("its step(0)", x.step(0), 7);
        Due.due("its step(1)", x.step(1), NONE);
        // 1 turned is 32, and line 5 leads there, too, behind line 0: the turn alone is shorter.
        Due.due("way(1, 32, 97)", x.way(1, 32, 97), 1);
        Due.due("its step(0)", x.step(0), 6);
        // TURNED then OPPOSITE, or the other way round: the lesser first.
        Due.due("way(1, 31, 192)", x.way(1, 31, 192), 2);
        Due.due("its step(0)", x.step(0), 6);
        Due.due("its step(1)", x.step(1), 7);
        Due.due("way(9, 9, 511)", x.way(9, 9, 511), 0);
        Due.due("its step(0)", x.step(0), NONE);
        Due.due("way(0, 3, 3)", x.way(0, 3, 3), 2);
        Due.due("way(0, 1, 256)", x.way(0, 1, 256), NONE);
        Due.due("step(0), no way", x.step(0), NONE);
    }

    private static int after(int x, int act) {
        int y = 0;
        int[] nested = {1, 2, 3, 2, 3, 4};
        for (int i = 0; i < 6; i++) {
            int from = act == 6 ? 5 - i : act == 8 ? nested[i] : i;
            int bit = x >> from & 1;
            y |= (act == 7 || act == i ? 1 - bit : bit) << i;
        }
        return y;
    }

    /** Every pair of numbers: distances by rounds from the end, then the least act that comes nearer. */
    private static void everyWay() {
        int[] lets = {511, 448, 320, 384, 257, 258, 272, 321, 65, 129, 449, 7, 0, 322, 388, 288};
        for (int let : lets) {
            for (int y = 0; y < 64; y += 3) {
                int[] far = new int[64];
                java.util.Arrays.fill(far, 1000);
                far[y] = 0;
                for (int round = 0; round < 64; round++) {
                    for (int at = 0; at < 64; at++) {
                        for (int act = 0; act < 9; act++) {
                            if ((let >> act & 1) == 1) {
                                far[at] = Math.min(far[at], far[after(at, act)] + 1);
                            }
                        }
                    }
                }
                for (int from = 0; from < 64; from++) {
                    oneWay(new StalkRoom(), from, y, let, far);
                }
            }
        }
    }

    private static void oneWay(StalkRoom x, int from, int y, int let, int[] far) {
        String call = "way(" + from + ", " + y + ", " + let + ")";
        boolean leads = far[from] < 1000;
        Due.due(call, x.way(from, y, let), leads ? far[from] : NONE);
        int at = from;
        int steps = leads ? far[from] : 0;
        for (int i = 0; i < steps; i++) {
            int act = 0;
            while ((let >> act & 1) == 0 || far[after(at, act)] != far[at] - 1) {
                act++;
            }
            Due.due(call + " step " + i, x.step(i), act);
            at = after(at, act);
        }
        Due.due(call + " step behind the last", x.step(steps), NONE);
    }
}
