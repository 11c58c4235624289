import java.util.function.Supplier;
import java.util.function.ToIntFunction;

/**
 * 'Terms': "Refused is, the first of these that fits, in this order: BAD, FULL, STATE, FINDING", and findings in
 * the order in which a promise lists them. Each call here fits two refusals or more, or one that no range names.
 */
public final class RefusalTest {
    private static final Fixture.Refusal BAD = Fixture.Refusal.BAD, FULL = Fixture.Refusal.FULL;
    private static final Fixture.Refusal STATE = Fixture.Refusal.STATE, NOTHING = Fixture.Refusal.NOTHING;
    private static final Fixture.Refusal BEYOND = Fixture.Refusal.BEYOND, UNLIKE = Fixture.Refusal.UNLIKE;
    private static final Fixture.Refusal NOUGHT = Fixture.Refusal.NOUGHT, SIZE = Fixture.Refusal.SIZE;
    private static final int MIN = Integer.MIN_VALUE, MAX = Integer.MAX_VALUE;

    public static void main(String[] args) {
        badAheadOfFull();
        badAheadOfState();
        badAheadOfFindings();
        full();
        state();
        unlike();
        findingsAheadOfFindings();
        refusedAgainAndAgain();
        Due.end();
    }

    private static void of(String call, Fixture.Refusal why, ToIntFunction<StalkRoom> ask) {
        Fixture.refused(call, Fixture::full, why, ask);
    }

    private static void badAheadOfFull() {
        of("stalks, n below", BAD, x -> x.stalks(3, 4, true));
        of("stalks, n above", BAD, x -> x.stalks(61, 4, true));
        of("stalks, k below", BAD, x -> x.stalks(49, 1, true));
        of("stalks, k above", BAD, x -> x.stalks(49, 9, true));
        of("thumb, n below", BAD, x -> x.thumb(3, 4, true, 1, 5));
        of("thumb, n above", BAD, x -> x.thumb(61, 4, true, 1, 5));
        of("thumb, k below", BAD, x -> x.thumb(49, 1, true, 1, 5));
        of("thumb, k above", BAD, x -> x.thumb(49, 9, true, 1, 5));
        of("thumb, lo below", BAD, x -> x.thumb(49, 4, true, 0, 5));
        of("thumb, hi below lo", BAD, x -> x.thumb(49, 4, true, 6, 5));
        of("thumb, hi above", BAD, x -> x.thumb(49, 4, true, 6, 60));
    }

    /** "(STATE behind BAD.)" */
    private static void badAheadOfState() {
        of("draw, figure below, a line that is none", BAD, x -> x.draw(-1, 4, 1));
        of("draw, figure above, a line that is none", BAD, x -> x.draw(8, 4, 1));
        Fixture.refused("nearest, row below, no casters", Fixture::castersNone, BAD, x -> x.nearest(-1));
        Fixture.refused("nearest, row above, no casters", Fixture::castersNone, BAD, x -> x.nearest(4));
    }

    private static void badAheadOfFindings() {
        of("mark, kind 0, ahead of UNLIKE", BAD, x -> x.mark(2, 0));
        of("mark, kind 0, though it is of KIND 0", BAD, x -> x.mark(0, 0));
        of("mark, kind 4, ahead of UNLIKE", BAD, x -> x.mark(2, 4));
        of("part, n above, ahead of UNLIKE", BAD, x -> x.part(2, 61, 1));
        of("part, n below, ahead of UNLIKE", BAD, x -> x.part(0, -1, 1));
        of("part, n above, ahead of BEYOND", BAD, x -> x.part(1, 61, 61));
        of("part, n below, ahead of BEYOND", BAD, x -> x.part(1, -1, -1));
        of("part, caster, ahead of BEYOND", BAD, x -> x.part(10, 10, 10));
        of("line, caster, ahead of BEYOND", BAD, x -> x.line(10, 0, 0, 0));
        of("set, figure, ahead of BEYOND", BAD, x -> x.set(8, 6, 7));
        of("set, v below, ahead of BEYOND", BAD, x -> x.set(0, 6, 5));
        of("set, v above, ahead of BEYOND", BAD, x -> x.set(0, -1, 10));
        of("get, figure, ahead of BEYOND", BAD, x -> x.get(8, 6));
        of("row, ahead of SIZE", BAD, x -> x.row(4, -1));
        of("lay, ahead of BEYOND", BAD, x -> x.lay(4, 64, 0));
        of("copy, from, ahead of SIZE", BAD, x -> x.copy(4, 0, 0, 0, -1));
        of("copy, to, ahead of SIZE", BAD, x -> x.copy(0, 0, 4, 0, -1));
        of("copy, from, ahead of NOTHING", BAD, x -> x.copy(4, 0, 3, 0, 1));
        of("copy, to, ahead of NOTHING", BAD, x -> x.copy(3, 0, 4, 0, 1));
        of("copy, from, ahead of BEYOND", BAD, x -> x.copy(-1, 0, 0, 0, 21));
        of("copy, to, ahead of BEYOND", BAD, x -> x.copy(0, 0, -1, 0, 21));
        of("misfits, order below, ahead of NOTHING", BAD, x -> x.misfits(3, -1));
        of("misfits, order above, ahead of NOTHING", BAD, x -> x.misfits(3, 3));
        of("swapped, order below, ahead of NOTHING", BAD, x -> x.swapped(3, -1));
        of("swapped, order above, ahead of NOTHING", BAD, x -> x.swapped(3, 3));
        of("off, caster, ahead of NOTHING", BAD, x -> x.off(3, 10));
        of("off, caster, ahead of NOUGHT", BAD, x -> x.off(1, 10));
        of("lost, row, ahead of UNLIKE", BAD, x -> x.lost(4, 2));
        of("lost, caster, ahead of NOTHING", BAD, x -> x.lost(3, 10));
        of("lost, caster, ahead of NOUGHT", BAD, x -> x.lost(1, 10));
    }

    private static void full() {
        of("caster", FULL, x -> x.caster(false));
        of("coins", FULL, x -> x.caster(true));
        of("stalks", FULL, x -> x.stalks(4, 2, true));
        of("thumb", FULL, x -> x.thumb(60, 8, false, 1, 59));
        Fixture.let("the tenth caster", () -> Fixture.alike(9), x -> x.caster(false));
        Fixture.let("the tenth coins", () -> Fixture.alike(9), x -> x.caster(true));
        Fixture.let("the tenth stalks", () -> Fixture.alike(9), x -> x.stalks(4, 2, true));
        Fixture.let("the tenth thumb", () -> Fixture.alike(9), x -> x.thumb(60, 8, false, 1, 59));
    }

    private static void state() {
        for (int f = 0; f < 8; f++) {
            int figure = f;
            of("draw, a line that is none, figure " + f, STATE, x -> x.draw(figure, 4, 1));
        }
        Supplier<StalkRoom> none = Fixture::castersNone;
        Fixture.refused("nearest, no casters, though a line counts", none, STATE, x -> x.nearest(0));
        Fixture.refused("nearest, no casters, ahead of NOUGHT", none, STATE, x -> x.nearest(1));
        Fixture.refused("nearest, no casters, ahead of NOUGHT, empty row", none, STATE, x -> x.nearest(2));
        Fixture.refused("nearest, no casters, ahead of NOTHING", none, STATE, x -> x.nearest(3));
    }

    /** A THUMB is a STALKS; STALKS are no THUMB, COINS no STALKS, and KIND 0 is none of them. */
    private static void unlike() {
        int[][] unlike = {{0, 1}, {0, 2}, {0, 3}, {1, 2}, {1, 3}, {2, 1}, {2, 3}, {3, 2}};
        for (int[] u : unlike) {
            of("mark(" + u[0] + ", " + u[1] + ")", UNLIKE, x -> x.mark(u[0], u[1]));
        }
        for (int c : new int[] {0, 2}) {
            of("part by caster " + c, UNLIKE, x -> x.part(c, 10, 1));
            of("part of fewer than two by caster " + c, UNLIKE, x -> x.part(c, 1, 1));
            of("line by caster " + c, UNLIKE, x -> x.line(c, 1, 1, 1));
            of("lost by caster " + c, UNLIKE, x -> x.lost(0, c));
        }
    }

    private static void findingsAheadOfFindings() {
        for (int c : new int[] {0, 2}) {
            of("part, UNLIKE ahead of BEYOND", UNLIKE, x -> x.part(c, 10, 10));
            of("line, UNLIKE ahead of BEYOND", UNLIKE, x -> x.line(c, 0, 0, 0));
            of("lost, NOTHING ahead of UNLIKE", NOTHING, x -> x.lost(3, c));
            of("lost, UNLIKE ahead of NOUGHT", UNLIKE, x -> x.lost(1, c));
            of("lost, UNLIKE ahead of NOUGHT, empty row", UNLIKE, x -> x.lost(2, c));
        }
        of("lay, NOTHING ahead of BEYOND", NOTHING, x -> x.lay(3, 64, 0));
        of("lay, NOTHING ahead of BEYOND, below", NOTHING, x -> x.lay(3, -1, 0));
        of("copy, SIZE ahead of NOTHING, from", SIZE, x -> x.copy(3, 0, 0, 0, -1));
        of("copy, SIZE ahead of NOTHING, to", SIZE, x -> x.copy(0, 0, 3, 0, MIN));
        of("copy, SIZE ahead of BEYOND", SIZE, x -> x.copy(0, 99, 0, -1, -1));
        of("copy, NOTHING from, ahead of BEYOND", NOTHING, x -> x.copy(3, 0, 0, 99, 1));
        of("copy, NOTHING to, ahead of BEYOND", NOTHING, x -> x.copy(0, 99, 3, 0, 1));
        of("copy of none, NOTHING from", NOTHING, x -> x.copy(3, 0, 0, 0, 0));
        of("copy of none, NOTHING to", NOTHING, x -> x.copy(0, 0, 3, 0, 0));
        of("copy of none, NOTHING to itself", NOTHING, x -> x.copy(3, 0, 3, 0, 0));
        of("copy, BEYOND from and to", BEYOND, x -> x.copy(0, MAX, 1, MAX, 1));
        for (int r : new int[] {1, 2}) {
            of("off, NOUGHT of row " + r, NOUGHT, x -> x.off(r, 1));
            of("nearest, NOUGHT of row " + r, NOUGHT, x -> x.nearest(r));
            of("lost, NOUGHT of row " + r, NOUGHT, x -> x.lost(r, 1));
            of("lost, NOUGHT of row " + r + ", thumb", NOUGHT, x -> x.lost(r, 3));
        }
    }

    /** A room that was refused all of it goes on as one that was never asked. */
    private static void refusedAgainAndAgain() {
        StalkRoom x = Fixture.full();
        for (int i = 1; i <= 20; i++) {
            x.stalks(3, 4, true);
            x.caster(true);
            x.draw(0, 4, i);
            x.tear(3);
            x.get(0, 6);
            x.mark(2, 1);
            x.nearest(2);
            x.row(0, -i);
            // The fixture's own finding was BEYOND.
            for (int f = 1; f <= 5; f++) {
                Due.due("findings(" + f + "), round " + i, x.findings(f), f == 2 ? i + 1 : i);
            }
            Due.due("finding(), round " + i, x.finding(), 5);
        }
        Due.due("all else stays", Fixture.seen(x).equals(Fixture.seen(Fixture.full())) ? 1 : 0, 1);
    }
}
