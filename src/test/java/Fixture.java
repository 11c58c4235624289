import java.util.ArrayList;
import java.util.List;
import java.util.function.Supplier;
import java.util.function.ToIntFunction;

/** Rooms to ask, and what is seen of a room: what is refused leaves all of it as it was. */
final class Fixture {
    static final int MIN = Integer.MIN_VALUE, MAX = Integer.MAX_VALUE;
    static final int FINDINGS = 5;

    /** What a refused call answers, and the finding that it leaves (0: none). */
    enum Refusal {
        BAD(-1, 0), FULL(-2, 0), STATE(-4, 0),
        NOTHING(-3, 1), BEYOND(-3, 2), UNLIKE(-3, 3), NOUGHT(-3, 4), SIZE(-3, 5);

        final int answer;
        final int finding;

        Refusal(int answer, int finding) {
            this.answer = answer;
            this.finding = finding;
        }
    }

    /** A call with one of its numbers open. */
    interface Asking {
        int of(StalkRoom x, int v);
    }

    private Fixture() { }

    /** Casters: 0 kind 0, 1 stalks, 2 coins, 3 thumb, 4 of few stalks; row 0 a record of 20, 1 none counts, 2 empty, 3 missing. */
    static StalkRoom mixed() {
        StalkRoom x = new StalkRoom();
        x.caster(false);
        x.stalks(49, 4, true);
        x.caster(true);
        x.thumb(30, 3, false, 5, 9);
        x.stalks(4, 2, true);
        x.record(0, 1, 3, 20);
        x.row(1, 2);
        x.lay(1, 0, -1);
        x.lay(1, 1, 31);
        x.row(2, 0);
        x.draw(0, 2, 9);
        x.act(0, 2, 5);
        x.way(0, 7, 7);
        x.lacks(0);
        x.odds(1, 7);
        x.get(0, 7);
        return x;
    }

    /** As mixed, and coins up to 10 casters. */
    static StalkRoom full() {
        StalkRoom x = mixed();
        for (int c = 5; c < 10; c++) {
            x.caster(true);
        }
        return x;
    }

    /** As mixed without casters; row 0 holds a line that counts, 1 none, 2 is empty, 3 missing. */
    static StalkRoom castersNone() {
        StalkRoom x = new StalkRoom();
        fill(x, 0, 7);
        fill(x, 1, -1);
        x.row(2, 0);
        x.set(3, 3, 9);
        x.way(0, 7, 7);
        x.lacks(0);
        x.get(0, 7);
        return x;
    }

    /** So many casters, all the same stalks, and all rows there with three lines. */
    static StalkRoom alike(int casters) {
        StalkRoom x = new StalkRoom();
        for (int c = 0; c < casters; c++) {
            x.stalks(49, 4, true);
        }
        for (int r = 0; r < 4; r++) {
            fill(x, r, 7, 8, 9);
        }
        x.way(0, 63, 63);
        return x;
    }

    static void fill(StalkRoom x, int r, int... bytes) {
        x.row(r, bytes.length);
        for (int i = 0; i < bytes.length; i++) {
            x.lay(r, i, bytes[i]);
        }
    }

    /** Bytes are read by lay(), which tells what they were, and laid again. */
    static void bytes(String call, StalkRoom x, int r, int... want) {
        for (int i = 0; i < want.length; i++) {
            Due.due(call + " byte " + i, x.lay(r, i, want[i]), want[i] + 1000);
        }
        Due.due(call + " has no more", x.lay(r, want.length, 0), StalkRoom.FINDING);
    }

    static void lines(StalkRoom x, int f, int... lines) {
        for (int i = 0; i < lines.length; i++) {
            x.set(f, i, lines[i]);
        }
    }

    /** All that a room tells but its findings; the calls that move what is told come last. */
    static List<Long> seen(StalkRoom x) {
        List<Long> seen = new ArrayList<>(List.of(x.asked(), x.upper(), x.lower(), x.digest()));
        for (int what = 0; what < 3; what++) {
            seen.add((long) x.count(what));
        }
        for (int i = 0; i < 7; i++) {
            seen.add((long) x.step(i));
        }
        for (int c = 0; c < x.count(0); c++) {
            seen.add((long) x.drawn(c, 5));
            x.mean(c);
            seen.add(x.upper());
            seen.add(x.lower());
        }
        return seen;
    }

    private static int[] findings(StalkRoom x) {
        int[] times = new int[FINDINGS + 1];
        times[0] = x.finding();
        for (int f = 1; f <= FINDINGS; f++) {
            times[f] = x.findings(f);
        }
        return times;
    }

    static void refused(String call, Supplier<StalkRoom> rooms, Refusal why, ToIntFunction<StalkRoom> ask) {
        StalkRoom x = rooms.get();
        int[] times = findings(x);
        Due.due(call, ask.applyAsInt(x), why.answer);
        if (why.finding > 0) {
            times[0] = why.finding;
            times[why.finding]++;
        }
        int[] now = findings(x);
        for (int f = 0; f <= FINDINGS; f++) {
            Due.due(call + (f == 0 ? ": finding()" : ": findings(" + f + ")"), now[f], times[f]);
        }
        Due.due(call + ": all else stays", seen(x).equals(seen(rooms.get())) ? 1 : 0, 1);
    }

    /** The call is let through: it answers no refusal, and no finding comes. */
    static void let(String call, Supplier<StalkRoom> rooms, ToIntFunction<StalkRoom> ask) {
        StalkRoom x = rooms.get();
        int[] times = findings(x);
        int got = ask.applyAsInt(x);
        Due.due(call + " answered " + got + ", let through", got >= 0 || got == StalkRoom.NONE ? 1 : 0, 1);
        Due.due(call + ": no finding", java.util.Arrays.equals(findings(x), times) ? 1 : 0, 1);
    }

    /** The least and the most that are let through, and the next ones beyond, and the farthest. */
    static void range(String call, Supplier<StalkRoom> rooms, int least, int most, Refusal why, Asking ask) {
        range(call, rooms, least, most, why, why, ask);
    }

    static void range(String call, Supplier<StalkRoom> rooms, int least, int most,
            Refusal below, Refusal above, Asking ask) {
        for (int v : new int[] {least, most}) {
            let(call + " of " + v, rooms, x -> ask.of(x, v));
        }
        for (int v : new int[] {least - 1, MIN}) {
            refused(call + " of " + v, rooms, below, x -> ask.of(x, v));
        }
        for (int v : new int[] {most + 1, MAX}) {
            refused(call + " of " + v, rooms, above, x -> ask.of(x, v));
        }
    }

    /** Nothing is let through. */
    static void none(String call, Supplier<StalkRoom> rooms, Refusal why, Asking ask) {
        for (int v : new int[] {MIN, -1, 0, 1, MAX}) {
            refused(call + " of " + v, rooms, why, x -> ask.of(x, v));
        }
    }
}
