import java.util.function.ToIntFunction;

/** What is refused, in the order of 'Terms', and that it changes nothing but finding() and findings(). */
public final class RefusalTest {
    private static final int BAD = StalkRoom.BAD, FULL = StalkRoom.FULL, STATE = StalkRoom.STATE;
    private static final int FINDING = StalkRoom.FINDING;
    private static final int NOTHING = 1, BEYOND = 2, UNLIKE = 3, NOUGHT = 4, SIZE = 5;
    private static final int[] NO_CASTER = {-1, 10, Integer.MIN_VALUE, Integer.MAX_VALUE};
    private static final int[] NO_FIGURE = {-1, 8, Integer.MIN_VALUE, Integer.MAX_VALUE};
    private static final int[] NO_ROW = {-1, 4, Integer.MIN_VALUE, Integer.MAX_VALUE};

    public static void main(String[] args) {
        badNumbers();
        badCasters();
        badBehindNothingElse();
        full();
        state();
        findings();
        Due.end();
    }

    /** Casters: 0 kind 0, 1 stalks, 2 coins, 3 thumb, 4 of few stalks, more coins up to 10; row 0 a record, 1 none counts, 2 empty, 3 missing. */
    private static StalkRoom fixture() {
        StalkRoom x = new StalkRoom();
        x.caster(false);
        x.stalks(49, 4, true);
        x.caster(true);
        x.thumb(30, 3, false, 5, 9);
        x.stalks(4, 2, true);
        for (int c = 5; c < 10; c++) {
            x.caster(true);
        }
        x.record(0, 1, 3, 20);
        x.row(1, 2);
        x.lay(1, 0, -1);
        x.lay(1, 1, 31);
        x.row(2, 0);
        x.draw(0, 2, 9);
        x.act(0, 2, 5);
        x.way(0, 7, 7);
        x.lacks(0);
        x.odds(1, 7);
        x.get(0, 7);
        return x;
    }

    private static long seen(StalkRoom x) {
        long h = x.digest();
        long[] told = {x.asked(), x.upper(), x.lower(), x.count(0), x.count(1), x.count(2),
            x.step(0), x.step(1), x.step(2), x.step(3)};
        for (long v : told) {
            h = 1000003 * h + v;
        }
        return h;
    }

    private static void refused(String call, ToIntFunction<StalkRoom> asks, int answer, int finding) {
        StalkRoom x = fixture();
        long before = seen(x);
        int[] times = new int[6];
        for (int f = 1; f <= 5; f++) {
            times[f] = x.findings(f);
        }
        Due.due(call, asks.applyAsInt(x), answer);
        Due.due(call + ": what is seen", seen(x), before);
        Due.due(call + ": finding()", x.finding(), answer == FINDING ? finding : BEYOND);
        for (int f = 1; f <= 5; f++) {
            int more = answer == FINDING && f == finding ? 1 : 0;
            Due.due(call + ": findings(" + f + ")", x.findings(f), times[f] + more);
        }
    }

    private static void bad(String call, ToIntFunction<StalkRoom> asks) {
        refused(call, asks, BAD, 0);
    }

    private static void badNumbers() {
        for (int f : NO_FIGURE) {
            bad("set, figure", x -> x.set(f, 0, 7));
            bad("set, figure ahead of BEYOND", x -> x.set(f, 6, 7));
            bad("get, figure", x -> x.get(f, 0));
            bad("get, figure ahead of BEYOND", x -> x.get(f, -1));
            bad("draw, figure", x -> x.draw(f, 2, 1));
            bad("draw, figure ahead of STATE", x -> x.draw(f, 4, 1));
            bad("number, figure", x -> x.number(f));
            bad("act, figure", x -> x.act(f, 0, 0));
            bad("act, to", x -> x.act(0, 0, f));
        }
        for (int r : NO_ROW) {
            bad("row", x -> x.row(r, 1));
            bad("row, ahead of SIZE", x -> x.row(r, -1));
            bad("lay", x -> x.lay(r, 0, 0));
            bad("tear", x -> x.tear(r));
            bad("copy from", x -> x.copy(r, 0, 0, 0, 1));
            bad("copy to", x -> x.copy(0, 0, r, 0, 1));
            bad("copy, ahead of SIZE", x -> x.copy(3, 0, r, 0, -1));
            bad("misfits", x -> x.misfits(r, 0));
            bad("follows", x -> x.follows(r));
            bad("lacks", x -> x.lacks(r));
            bad("swapped", x -> x.swapped(r, 0));
            bad("record", x -> x.record(r, 1, 1, 1));
            bad("off", x -> x.off(r, 1));
            bad("nearest", x -> x.nearest(r));
            bad("lost", x -> x.lost(r, 1));
            bad("lost, ahead of UNLIKE", x -> x.lost(r, 2));
        }
    }

    private static void badCasters() {
        for (int c : NO_CASTER) {
            bad("told, caster", x -> x.told(c, 0));
            bad("mark, caster", x -> x.mark(c, 1));
            bad("part, caster", x -> x.part(c, 10, 1));
            bad("part, caster ahead of BEYOND", x -> x.part(c, 10, 10));
            bad("line, caster", x -> x.line(c, 1, 1, 1));
            bad("odds, caster", x -> x.odds(c, 7));
            bad("mean, caster", x -> x.mean(c));
            bad("drawn, caster", x -> x.drawn(c, 1));
            bad("draw, caster", x -> x.draw(0, c, 1));
            bad("record, caster", x -> x.record(0, c, 1, 1));
            bad("off, caster", x -> x.off(0, c));
            bad("off, caster ahead of NOTHING", x -> x.off(3, c));
            bad("lost, caster", x -> x.lost(0, c));
            bad("lost, caster ahead of NOTHING", x -> x.lost(3, c));
            bad("need, caster", x -> x.need(c, 1));
            bad("need, other", x -> x.need(1, c));
        }
    }

    private static void badBehindNothingElse() {
        bad("stalks, BAD ahead of FULL", x -> x.stalks(3, 4, true));
        bad("stalks, k", x -> x.stalks(49, 9, true));
        bad("thumb, BAD ahead of FULL", x -> x.thumb(49, 4, true, 0, 5));
        bad("thumb, hi", x -> x.thumb(49, 4, true, 6, 5));
        bad("told, what", x -> x.told(1, 4));
        bad("told, what below", x -> x.told(1, -1));
        bad("mark, kind 0", x -> x.mark(0, 0));
        bad("mark, kind 4", x -> x.mark(0, 4));
        bad("part, n above, ahead of UNLIKE", x -> x.part(2, 61, 1));
        bad("part, n below", x -> x.part(1, -1, 1));
        bad("odds, v above", x -> x.odds(1, 31));
        bad("odds, v below", x -> x.odds(1, -1));
        bad("set, v above", x -> x.set(0, 0, 10));
        bad("set, v below, ahead of BEYOND", x -> x.set(0, 6, 5));
        bad("act, act above", x -> x.act(0, 4, 0));
        bad("act, act below", x -> x.act(0, -1, 0));
        bad("way, x", x -> x.way(64, 0, 7));
        bad("way, y", x -> x.way(0, -1, 7));
        bad("way, let above", x -> x.way(0, 0, 512));
        bad("way, let below", x -> x.way(0, 0, -1));
        bad("row, n above", x -> x.row(0, 65));
        bad("misfits, order, ahead of NOTHING", x -> x.misfits(3, 3));
        bad("misfits, order below", x -> x.misfits(0, -1));
        bad("swapped, order, ahead of NOTHING", x -> x.swapped(3, 3));
        bad("swapped, order below", x -> x.swapped(0, -1));
        bad("record, n above", x -> x.record(0, 1, 1, 65));
        bad("record, n below", x -> x.record(0, 1, 1, -1));
        bad("count, above", x -> x.count(3));
        bad("count, below", x -> x.count(-1));
        bad("findings, above", x -> x.findings(6));
        bad("findings, below", x -> x.findings(0));
    }

    private static void full() {
        refused("caster", x -> x.caster(false), FULL, 0);
        refused("coins", x -> x.caster(true), FULL, 0);
        refused("stalks", x -> x.stalks(4, 2, true), FULL, 0);
        refused("thumb", x -> x.thumb(4, 2, true, 1, 59), FULL, 0);
    }

    private static void state() {
        refused("draw, a line that is none", x -> x.draw(0, 4, 1), STATE, 0);
        StalkRoom x = new StalkRoom();
        Due.due("nearest, STATE ahead of NOTHING", x.nearest(0), STATE);
        Due.due("finding() behind it", x.finding(), 0);
        x.row(0, 0);
        Due.due("nearest, STATE ahead of NOUGHT", x.nearest(0), STATE);
    }

    private static void findings() {
        int max = Integer.MAX_VALUE;
        refused("mark, coins no stalks", x -> x.mark(2, 1), FINDING, UNLIKE);
        refused("mark, stalks no thumb", x -> x.mark(1, 3), FINDING, UNLIKE);
        refused("part, UNLIKE ahead of BEYOND", x -> x.part(0, 10, 10), FINDING, UNLIKE);
        refused("part, BEYOND", x -> x.part(1, 10, 10), FINDING, BEYOND);
        refused("line, UNLIKE ahead of BEYOND", x -> x.line(2, 0, 0, 0), FINDING, UNLIKE);
        refused("line, BEYOND", x -> x.line(1, 1, 1, max), FINDING, BEYOND);
        refused("set, BEYOND", x -> x.set(0, 6, 6), FINDING, BEYOND);
        refused("get, BEYOND", x -> x.get(0, max), FINDING, BEYOND);
        refused("row, SIZE", x -> x.row(0, -1), FINDING, SIZE);
        refused("lay, NOTHING", x -> x.lay(3, 0, 0), FINDING, NOTHING);
        refused("lay, BEYOND", x -> x.lay(0, 20, 0), FINDING, BEYOND);
        refused("lay, BEYOND of an empty row", x -> x.lay(2, 0, 0), FINDING, BEYOND);
        refused("tear, NOTHING", x -> x.tear(3), FINDING, NOTHING);
        refused("copy, SIZE ahead of NOTHING", x -> x.copy(3, 0, 0, 0, -1), FINDING, SIZE);
        refused("copy, NOTHING from, ahead of BEYOND", x -> x.copy(3, 0, 0, 99, 1), FINDING, NOTHING);
        refused("copy, NOTHING to", x -> x.copy(0, 0, 3, 0, 0), FINDING, NOTHING);
        refused("copy, BEYOND", x -> x.copy(0, 0, 1, 1, 2), FINDING, BEYOND);
        refused("copy, BEYOND of MAX", x -> x.copy(0, max, 1, 0, max), FINDING, BEYOND);
        refused("misfits, NOTHING", x -> x.misfits(3, 0), FINDING, NOTHING);
        refused("follows, NOTHING", x -> x.follows(3), FINDING, NOTHING);
        refused("lacks, NOTHING", x -> x.lacks(3), FINDING, NOTHING);
        refused("swapped, NOTHING", x -> x.swapped(3, 0), FINDING, NOTHING);
        refused("off, NOTHING", x -> x.off(3, 1), FINDING, NOTHING);
        refused("off, NOUGHT", x -> x.off(1, 1), FINDING, NOUGHT);
        refused("nearest, NOTHING", x -> x.nearest(3), FINDING, NOTHING);
        refused("nearest, NOUGHT", x -> x.nearest(2), FINDING, NOUGHT);
        refused("lost, NOTHING ahead of UNLIKE", x -> x.lost(3, 2), FINDING, NOTHING);
        refused("lost, UNLIKE ahead of NOUGHT", x -> x.lost(1, 2), FINDING, UNLIKE);
        refused("lost, NOUGHT", x -> x.lost(1, 1), FINDING, NOUGHT);
    }
}
