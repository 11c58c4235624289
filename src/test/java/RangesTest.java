import java.util.function.Supplier;

/** Of each number that a call takes: the least and the greatest that are let through, and the next ones beyond. */
public final class RangesTest {
    private static final Fixture.Refusal BAD = Fixture.Refusal.BAD, BEYOND = Fixture.Refusal.BEYOND;
    private static final Fixture.Refusal NOTHING = Fixture.Refusal.NOTHING, SIZE = Fixture.Refusal.SIZE;
    private static final int MIN = Integer.MIN_VALUE, MAX = Integer.MAX_VALUE;

    private record Call(String name, Fixture.Asking ask) { }

    /** The calls that need a row that is there. */
    private static final Call[] CALLS_OF_ROWS = {
        new Call("lay", (x, r) -> x.lay(r, 0, 0)), new Call("tear", (x, r) -> x.tear(r)),
        new Call("copy, from", (x, r) -> x.copy(r, 0, 0, 0, 1)), new Call("copy, to", (x, r) -> x.copy(0, 0, r, 0, 1)),
        new Call("misfits", (x, r) -> x.misfits(r, 0)), new Call("follows", (x, r) -> x.follows(r)),
        new Call("lacks", (x, r) -> x.lacks(r)), new Call("swapped", (x, r) -> x.swapped(r, 0)),
        new Call("off", (x, r) -> x.off(r, 0)), new Call("nearest", (x, r) -> x.nearest(r)),
        new Call("lost", (x, r) -> x.lost(r, 0)),
    };

    public static void main(String[] args) {
        castersOfAllCalls();
        figuresOfAllCalls();
        rowsOfAllCalls();
        missingRowsOfAllCalls();
        bundles();
        whatIsAskedOfCasters();
        partings();
        linesOfFigures();
        ways();
        bytesOfRows();
        copies();
        orders();
        whatIsTold();
        Due.end();
    }

    /** None, one, or 10: the most that are let. */
    private static void castersOfAllCalls() {
        Call[] calls = {
            new Call("told", (x, c) -> x.told(c, 0)), new Call("mark", (x, c) -> x.mark(c, 1)),
            new Call("part", (x, c) -> x.part(c, 10, 1)), new Call("line", (x, c) -> x.line(c, 1, 1, 1)),
            new Call("odds", (x, c) -> x.odds(c, 7)), new Call("mean", (x, c) -> x.mean(c)),
            new Call("drawn", (x, c) -> x.drawn(c, 1)), new Call("draw", (x, c) -> x.draw(0, c, 1)),
            new Call("record", (x, c) -> x.record(0, c, 1, 1)), new Call("off", (x, c) -> x.off(0, c)),
            new Call("lost", (x, c) -> x.lost(0, c)), new Call("need", (x, c) -> x.need(c, 0)),
            new Call("need, other", (x, c) -> x.need(0, c)),
        };
        for (Call call : calls) {
            Fixture.none(call.name + ", no casters", () -> Fixture.alike(0), BAD, call.ask);
            Fixture.range(call.name + ", one caster", () -> Fixture.alike(1), 0, 0, BAD, call.ask);
            Fixture.range(call.name + ", all casters", () -> Fixture.alike(10), 0, 9, BAD, call.ask);
        }
    }

    private static void figuresOfAllCalls() {
        Supplier<StalkRoom> rooms = Fixture::mixed;
        Fixture.range("set, figure", rooms, 0, 7, BAD, (x, f) -> x.set(f, 0, 7));
        Fixture.range("get, figure", rooms, 0, 7, BAD, (x, f) -> x.get(f, 0));
        Fixture.range("draw, figure", rooms, 0, 7, BAD, (x, f) -> x.draw(f, 2, 1));
        Fixture.range("number, figure", rooms, 0, 7, BAD, (x, f) -> x.number(f));
        Fixture.range("act, figure", rooms, 0, 7, BAD, (x, f) -> x.act(f, 1, 0));
        Fixture.range("act, to", rooms, 0, 7, BAD, (x, f) -> x.act(0, 1, f));
    }

    private static void rowsOfAllCalls() {
        Supplier<StalkRoom> rooms = () -> Fixture.alike(1);
        for (Call call : CALLS_OF_ROWS) {
            Fixture.range(call.name + ", row", rooms, 0, 3, BAD, call.ask);
        }
        Fixture.range("row, row", rooms, 0, 3, BAD, (x, r) -> x.row(r, 1));
        Fixture.range("record, row", rooms, 0, 3, BAD, (x, r) -> x.record(r, 0, 1, 1));
    }

    /** A row is missing at first, and again behind tear(). */
    private static void missingRowsOfAllCalls() {
        for (Call call : CALLS_OF_ROWS) {
            for (int r = 0; r < 4; r++) {
                String name = call.name + ", row " + r;
                int row = r;
                Fixture.refused(name + ", new", () -> casterAlone(), NOTHING, x -> call.ask.of(x, row));
                Fixture.refused(name + ", torn", () -> torn(row), NOTHING, x -> call.ask.of(x, row));
            }
        }
    }

    private static StalkRoom casterAlone() {
        StalkRoom x = new StalkRoom();
        x.stalks(49, 4, true);
        return x;
    }

    private static StalkRoom torn(int r) {
        StalkRoom x = Fixture.alike(1);
        x.tear(r);
        return x;
    }

    /** "STALKS have N stalks (4 .. 60) and count off by k (2 .. 8)"; "lo 1 .. 59, hi lo .. 59". */
    private static void bundles() {
        Supplier<StalkRoom> rooms = Fixture::mixed;
        Fixture.range("stalks, n", rooms, 4, 60, BAD, (x, n) -> x.stalks(n, 4, true));
        Fixture.range("stalks, k", rooms, 2, 8, BAD, (x, k) -> x.stalks(49, k, false));
        Fixture.range("thumb, n", rooms, 4, 60, BAD, (x, n) -> x.thumb(n, 4, true, 1, 59));
        Fixture.range("thumb, k", rooms, 2, 8, BAD, (x, k) -> x.thumb(49, k, false, 1, 59));
        Fixture.range("thumb, lo", rooms, 1, 59, BAD, (x, lo) -> x.thumb(49, 4, true, lo, 59));
        Fixture.range("thumb, lo up to hi", rooms, 1, 20, BAD, (x, lo) -> x.thumb(49, 4, true, lo, 20));
        Fixture.range("thumb, hi", rooms, 1, 59, BAD, (x, hi) -> x.thumb(49, 4, true, 1, hi));
        Fixture.range("thumb, hi from lo", rooms, 20, 59, BAD, (x, hi) -> x.thumb(49, 4, true, 20, hi));
        Fixture.range("thumb, lo and hi alike", rooms, 1, 59, BAD, (x, at) -> x.thumb(49, 4, true, at, at));
    }

    private static void whatIsAskedOfCasters() {
        Supplier<StalkRoom> rooms = Fixture::mixed;
        Fixture.range("told, what, of kind 0", rooms, 0, 3, BAD, (x, what) -> x.told(0, what));
        Fixture.range("told, what, of a thumb", rooms, 0, 3, BAD, (x, what) -> x.told(3, what));
        Fixture.range("mark, kind", rooms, 1, 3, BAD, (x, kind) -> x.mark(3, kind));
        Fixture.range("odds, v", rooms, 0, 30, BAD, (x, v) -> x.odds(1, v));
        Fixture.range("odds, v, of kind 0", rooms, 0, 30, BAD, (x, v) -> x.odds(0, v));
    }

    /** "A PARTING of n stalks at a (1 .. n - 1)"; "n stalks (0 .. 60)"; the places of each parting of a line. */
    private static void partings() {
        Supplier<StalkRoom> rooms = Fixture::mixed;
        Fixture.range("part, n", rooms, 0, 60, BAD, (x, n) -> x.part(1, n, 1));
        for (int n : new int[] {2, 3, 49, 60}) {
            Fixture.range("part, place of " + n, rooms, 1, n - 1, BEYOND, (x, a) -> x.part(1, n, a));
            // A thumb's lo and hi are where it parts of itself; it can be parted at every place.
            Fixture.range("part, place of " + n + ", thumb", rooms, 1, n - 1, BEYOND, (x, a) -> x.part(3, n, a));
        }
        // 49 at 1 leaves 44, and these at 1 leave 40.
        Fixture.range("line, a", rooms, 1, 48, BEYOND, (x, a) -> x.line(1, a, 1, 1));
        Fixture.range("line, b", rooms, 1, 43, BEYOND, (x, b) -> x.line(1, 1, b, 1));
        Fixture.range("line, c", rooms, 1, 39, BEYOND, (x, c) -> x.line(1, 1, 1, c));
        // 30 by 3 at 1 leave 27, and these at 1 leave 24.
        Fixture.range("line, a, thumb", rooms, 1, 29, BEYOND, (x, a) -> x.line(3, a, 1, 1));
        Fixture.range("line, b, thumb", rooms, 1, 26, BEYOND, (x, b) -> x.line(3, 1, b, 1));
        Fixture.range("line, c, thumb", rooms, 1, 23, BEYOND, (x, c) -> x.line(3, 1, 1, c));
    }

    private static void linesOfFigures() {
        Supplier<StalkRoom> rooms = Fixture::mixed;
        Fixture.range("set, i", rooms, 0, 5, BEYOND, (x, i) -> x.set(0, i, 7));
        Fixture.range("set, v", rooms, 6, 9, BAD, (x, v) -> x.set(0, 0, v));
        Fixture.range("get, i", rooms, 0, 5, BEYOND, (x, i) -> x.get(0, i));
        Fixture.range("act, act", rooms, 0, 3, BAD, (x, act) -> x.act(0, act, 1));
    }

    private static void ways() {
        Supplier<StalkRoom> rooms = Fixture::mixed;
        Fixture.range("way, x", rooms, 0, 63, BAD, (x, from) -> x.way(from, 0, 511));
        Fixture.range("way, y", rooms, 0, 63, BAD, (x, to) -> x.way(0, to, 511));
        Fixture.range("way, let", rooms, 0, 511, BAD, (x, let) -> x.way(5, 6, let));
    }

    /** "ROWS 0 .. 3 are rows of 0 to 64 bytes"; an empty, a short and a full one. */
    private static void bytesOfRows() {
        Supplier<StalkRoom> rooms = Fixture::mixed;
        for (int r = 0; r < 4; r++) {
            int row = r;
            Fixture.range("row, n, of row " + r, rooms, 0, 64, SIZE, BAD, (x, n) -> x.row(row, n));
        }
        Fixture.range("record, n", rooms, 0, 64, BAD, (x, n) -> x.record(0, 1, 1, n));
        Fixture.range("record, n, to a missing row", rooms, 0, 64, BAD, (x, n) -> x.record(3, 1, 1, n));
        Fixture.none("lay, i, empty row", () -> ofSize(0), BEYOND, (x, i) -> x.lay(0, i, 1));
        for (int n : new int[] {1, 2, 63, 64}) {
            Fixture.range("lay, i, of " + n, () -> ofSize(n), 0, n - 1, BEYOND, (x, i) -> x.lay(0, i, 1));
        }
        Fixture.range("lay, i, behind a longer row", () -> shortened(), 0, 1, BEYOND, (x, i) -> x.lay(0, i, 1));
        for (int v : new int[] {MIN, -1, 0, 1, MAX}) {
            Fixture.let("lay, v of " + v, rooms, x -> x.lay(0, 0, v));
        }
    }

    private static StalkRoom ofSize(int n) {
        StalkRoom x = new StalkRoom();
        x.row(0, n);
        return x;
    }

    private static StalkRoom shortened() {
        StalkRoom x = ofSize(64);
        x.row(0, 2);
        return x;
    }

    /** Row 0 has 20 bytes, row 1 two, row 2 none. */
    private static void copies() {
        Supplier<StalkRoom> rooms = Fixture::mixed;
        Fixture.range("copy, i", rooms, 0, 18, BEYOND, (x, i) -> x.copy(0, i, 1, 0, 2));
        Fixture.range("copy, j", rooms, 0, 18, BEYOND, (x, j) -> x.copy(1, 0, 0, j, 2));
        Fixture.range("copy, n, of what is there", rooms, 0, 2, SIZE, BEYOND, (x, n) -> x.copy(1, 0, 0, 0, n));
        Fixture.range("copy, n, of what there is room for", rooms, 0, 2, SIZE, BEYOND, (x, n) -> x.copy(0, 0, 1, 0, n));
        Fixture.range("copy, n, from 5 on", rooms, 0, 15, SIZE, BEYOND, (x, n) -> x.copy(0, 5, 0, 0, n));
        Fixture.range("copy, n, to 5 on", rooms, 0, 15, SIZE, BEYOND, (x, n) -> x.copy(0, 0, 0, 5, n));
        Fixture.range("copy, n, from the end on", rooms, 0, 0, SIZE, BEYOND, (x, n) -> x.copy(0, 20, 0, 0, n));
        Fixture.range("copy, n, to the end on", rooms, 0, 0, SIZE, BEYOND, (x, n) -> x.copy(0, 0, 0, 20, n));
        Fixture.range("copy, n, of an empty row", rooms, 0, 0, SIZE, BEYOND, (x, n) -> x.copy(2, 0, 0, 0, n));
        Fixture.range("copy, n, to an empty row", rooms, 0, 0, SIZE, BEYOND, (x, n) -> x.copy(0, 0, 2, 0, n));
        Fixture.range("copy, n, of a full row", () -> ofSize(64), 0, 64, SIZE, BEYOND, (x, n) -> x.copy(0, 0, 0, 0, n));
        // Places and numbers whose sums wrap around.
        Fixture.refused("copy of MAX from MAX", rooms, BEYOND, x -> x.copy(0, MAX, 0, 0, MAX));
        Fixture.refused("copy of MAX to MAX", rooms, BEYOND, x -> x.copy(0, 0, 0, MAX, MAX));
        Fixture.refused("copy of MAX from MIN", rooms, BEYOND, x -> x.copy(0, MIN, 0, 0, MAX));
        Fixture.refused("copy of MAX from -1", rooms, BEYOND, x -> x.copy(0, -1, 0, -1, MAX));
        Fixture.refused("copy of MAX from 1", rooms, BEYOND, x -> x.copy(0, 1, 0, 1, MAX));
    }

    private static void orders() {
        Supplier<StalkRoom> rooms = Fixture::mixed;
        Fixture.range("misfits, order", rooms, 0, 2, BAD, (x, order) -> x.misfits(0, order));
        Fixture.range("misfits, order, empty row", rooms, 0, 2, BAD, (x, order) -> x.misfits(2, order));
        Fixture.range("swapped, order", rooms, 0, 2, BAD, (x, order) -> x.swapped(0, order));
        Fixture.range("swapped, order, empty row", rooms, 0, 2, BAD, (x, order) -> x.swapped(2, order));
    }

    private static void whatIsTold() {
        Supplier<StalkRoom> rooms = Fixture::mixed;
        Fixture.range("count, what", rooms, 0, 2, BAD, (x, what) -> x.count(what));
        Fixture.range("findings, f", rooms, 1, 5, BAD, (x, f) -> x.findings(f));
    }
}
