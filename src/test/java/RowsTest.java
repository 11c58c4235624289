/** Promises 19 to 31: rows, lists and records. Findings: 1 NOTHING, 2 BEYOND, 3 UNLIKE, 4 NOUGHT, 5 SIZE. */
public final class RowsTest {
    private static final int BAD = StalkRoom.BAD, STATE = StalkRoom.STATE, NONE = StalkRoom.NONE;
    private static final int MAX = Integer.MAX_VALUE, MIN = Integer.MIN_VALUE;

    public static void main(String[] args) {
        promise19Row();
        promise20Lay();
        promise21Tear();
        promise22Copy();
        promise23Misfits();
        promise24Follows();
        promise25Lacks();
        promise26Swapped();
        promise27Record();
        promise28Off();
        promise29Nearest();
        promise30Lost();
        promise31Need();
        Due.end();
    }

    private static int turned(int x) {
        int y = 0;
        for (int i = 0; i < 6; i++) {
            y |= (x >> i & 1) << (5 - i);
        }
        return y;
    }

    private static void promise19Row() {
        StalkRoom x = new StalkRoom();
        Due.due("row(0, 0)", x.row(0, 0), 0);
        Due.due("row(3, 64)", x.row(3, 64), 64);
        Due.due("count(1)", x.count(1), 2);
        Fixture.fill(x, 1, 5, 6, 7);
        Due.due("row(1, 2) again", x.row(1, 2), 2);
        Fixture.bytes("row(1, 2)", x, 1, 0, 0);
        Due.due("row(1, 3) again", x.row(1, 3), 3);
        Fixture.bytes("row(1, 3)", x, 1, 0, 0, 0);
        Due.due("row(0, 65)", x.row(0, 65), BAD);
        Due.due("row(4, 1)", x.row(4, 1), BAD);
        Due.due("row(-1, 1)", x.row(-1, 1), BAD);
        Due.due("row(4, -1), BAD ahead", x.row(4, -1), BAD);
        Due.finding("row(1, -1)", x, x.row(1, -1), 5);
        Due.finding("row(2, MIN)", x, x.row(2, MIN), 5);
        Due.due("count(1) behind SIZE", x.count(1), 3);
        Fixture.bytes("row 1 behind SIZE", x, 1, 0, 0, 0);
    }

    private static void promise20Lay() {
        StalkRoom x = new StalkRoom();
        Due.finding("lay, missing", x, x.lay(0, 0, 1), 1);
        x.row(0, 2);
        Due.due("lay(0, 0, 127)", x.lay(0, 0, 127), 1000);
        Due.due("lay(0, 0, 128)", x.lay(0, 0, 128), 1127);
        Due.due("lay(0, 0, -1)", x.lay(0, 0, -1), 1000 - 128);
        Due.due("lay(0, 0, 300)", x.lay(0, 0, 300), 999);
        Due.due("lay(0, 0, 0)", x.lay(0, 0, 0), 1044);
        Due.finding("lay(0, 2, 0)", x, x.lay(0, 2, 0), 2);
        Due.finding("lay(0, -1, 0)", x, x.lay(0, -1, 0), 2);
        Due.due("lay(4, 0, 0)", x.lay(4, 0, 0), BAD);
        Due.due("lay(-1, 0, 0)", x.lay(-1, 0, 0), BAD);
        Due.finding("lay(1, 9, 0), NOTHING ahead", x, x.lay(1, 9, 0), 1);
    }

    private static void promise21Tear() {
        StalkRoom x = new StalkRoom();
        Due.finding("tear, missing", x, x.tear(2), 1);
        x.row(2, 0);
        Due.due("tear(2)", x.tear(2), 1);
        Due.due("count(1)", x.count(1), 0);
        Due.finding("tear(2) again", x, x.tear(2), 1);
        Due.finding("misfits(2, 0), torn", x, x.misfits(2, 0), 1);
        Due.due("tear(4)", x.tear(4), BAD);
        Due.due("tear(-1)", x.tear(-1), BAD);
        Fixture.fill(x, 1, 3, 4);
        x.tear(1);
        x.row(1, 2);
        Fixture.bytes("row behind tear", x, 1, 0, 0);
    }

    private static void promise22Copy() {
        StalkRoom x = new StalkRoom();
        Fixture.fill(x, 0, 1, 2, 3, 4, 5);
        Fixture.fill(x, 1, 9, 9, 9);
        Due.due("copy(0, 2, 1, 0, 3)", x.copy(0, 2, 1, 0, 3), 1);
        Fixture.bytes("copy", x, 1, 3, 4, 5);
        Due.due("copy, forward on itself", x.copy(0, 0, 0, 1, 4), 1);
        Fixture.bytes("copy, forward on itself", x, 0, 1, 1, 2, 3, 4);
        Due.due("copy, back on itself", x.copy(0, 2, 0, 0, 3), 1);
        Fixture.bytes("copy, back on itself", x, 0, 2, 3, 4, 3, 4);
        Due.due("copy of none at the ends", x.copy(0, 5, 1, 3, 0), 1);
        Due.finding("copy of none beyond the end", x, x.copy(0, 6, 1, 0, 0), 2);
        Due.finding("copy, too many from", x, x.copy(1, 1, 0, 0, 3), 2);
        Due.finding("copy, too many to", x, x.copy(0, 0, 1, 1, 3), 2);
        Due.finding("copy from -1", x, x.copy(0, -1, 1, 0, 1), 2);
        Due.finding("copy to -1", x, x.copy(0, 0, 1, -1, 1), 2);
        Due.finding("copy of MAX", x, x.copy(0, 1, 1, 1, MAX), 2);
        Due.finding("copy from MAX", x, x.copy(0, MAX, 1, 1, 1), 2);
        Due.finding("copy to MAX", x, x.copy(0, 0, 1, MAX, MAX), 2);
        Due.finding("copy from MIN", x, x.copy(0, MIN, 1, 0, 1), 2);
        Due.finding("copy from a missing one", x, x.copy(2, 0, 1, 0, 0), 1);
        Due.finding("copy to a missing one, NOTHING ahead", x, x.copy(0, 99, 2, 0, 1), 1);
        Due.finding("copy of fewer than none, SIZE ahead", x, x.copy(2, 99, 3, 0, -1), 5);
        Due.due("copy(4, 0, 0, 0, -1), BAD ahead", x.copy(4, 0, 0, 0, -1), BAD);
        Due.due("copy(0, 0, 4, 0, 0)", x.copy(0, 0, 4, 0, 0), BAD);
        Due.due("copy(0, 0, -1, 0, 0)", x.copy(0, 0, -1, 0, 0), BAD);
        Fixture.bytes("row 0 behind what was refused", x, 0, 2, 3, 4, 3, 4);
        Fixture.bytes("row 1 behind what was refused", x, 1, 3, 4, 5);
    }

    private static void promise23Misfits() {
        StalkRoom x = new StalkRoom();
        x.row(0, 64);
        x.row(1, 64);
        for (int i = 0; i < 64; i++) {
            x.lay(0, i, i);
            x.lay(1, i, turned(i));
        }
        Due.due("by count, in order", x.misfits(0, 0), 0);
        // 8 of 64 numbers are alike both ways round.
        Due.due("by count, told back", x.misfits(0, 1), 56);
        Due.due("back, by count", x.misfits(1, 0), 56);
        Due.due("back, in order", x.misfits(1, 1), 0);
        x.lay(0, 9, 64);
        x.lay(0, 10, -1);
        Due.due("leaves gone", x.misfits(0, 0), 0);
        x.lay(0, 63, 0);
        Due.due("one leaf astray", x.misfits(0, 0), 1);
        Fixture.fill(x, 2, 1, 32, 33, 30, 33, 33, 7, 56, 5);
        Due.due("pairs, 33 beside itself", x.misfits(2, 2), 1);
        x.lay(2, 4, 64);
        Due.due("pairs, the first one gone", x.misfits(2, 2), 0);
        x.lay(2, 1, 62);
        Due.due("pairs, opposite though turned is another one", x.misfits(2, 2), 1);
        x.lay(2, 1, -5);
        Due.due("pairs, the other one gone", x.misfits(2, 2), 0);
        x.row(3, 0);
        Due.due("no leaves", x.misfits(3, 2), 0);
        Due.due("misfits(0, 3)", x.misfits(0, 3), BAD);
        Due.due("misfits(0, -1)", x.misfits(0, -1), BAD);
        Due.due("misfits(4, 0)", x.misfits(4, 0), BAD);
        x.tear(3);
        Due.due("misfits(3, 3), BAD ahead", x.misfits(3, 3), BAD);
        Due.finding("misfits(3, 0)", x, x.misfits(3, 0), 1);
    }

    private static void promise24Follows() {
        StalkRoom x = new StalkRoom();
        Fixture.fill(x, 0, 0, 1, 2, 3, 5);
        Due.due("follows(0)", x.follows(0), 0);
        Due.due("asked()", x.asked(), 1);
        Fixture.fill(x, 1, 0, 32, 16, 48, 8);
        Due.due("follows(1)", x.follows(1), 1);
        Due.due("asked()", x.asked(), 0);
        Fixture.fill(x, 2, 1, 32, 7, 56, 3, 3);
        Due.due("follows(2)", x.follows(2), 2);
        Due.due("asked()", x.asked(), 1);
        Fixture.fill(x, 3, 64, 64, 64);
        Due.due("follows, all alike", x.follows(3), 0);
        Due.due("asked()", x.asked(), 0);
        // 0 and 32: back has none, pairs one (0 beside 32), by count one.
        Fixture.fill(x, 3, 0, 32);
        Due.due("follows, back", x.follows(3), 1);
        // 1 and 32: by count two, back one, pairs none.
        Fixture.fill(x, 3, 1, 32);
        Due.due("follows, pairs", x.follows(3), 2);
        // 5: by count and back one each, pairs none; 5 and 6: two, two, one.
        Fixture.fill(x, 3, 5, 6);
        Due.due("follows, fewest", x.follows(3), 2);
        Due.due("asked()", x.asked(), 1);
        x.tear(3);
        Due.finding("follows, missing", x, x.follows(3), 1);
        Due.due("follows(4)", x.follows(4), BAD);
        Due.due("follows(-1)", x.follows(-1), BAD);
        Due.due("asked() behind what was refused", x.asked(), 1);
    }

    private static void promise25Lacks() {
        StalkRoom x = new StalkRoom();
        Fixture.fill(x, 0, 0, 63, 64, -1, 5, 5);
        Due.due("lacks(0)", x.lacks(0), 61);
        Due.due("asked()", x.asked(), ~(1L | 1L << 63 | 1L << 5));
        x.row(1, 0);
        Due.due("lacks of none", x.lacks(1), 64);
        Due.due("asked()", x.asked(), -1);
        x.row(2, 64);
        for (int i = 0; i < 64; i++) {
            x.lay(2, i, 63 - i);
        }
        Due.due("lacks nothing", x.lacks(2), 0);
        Due.due("asked()", x.asked(), 0);
        Due.finding("lacks, missing", x, x.lacks(3), 1);
        Due.due("lacks(4)", x.lacks(4), BAD);
        Due.due("lacks(-1)", x.lacks(-1), BAD);
    }

    private static void promise26Swapped() {
        StalkRoom x = new StalkRoom();
        Fixture.fill(x, 0, 0, 1, 5, 3, 4, 2);
        Due.due("swapped by count", x.swapped(0, 0), 205);
        Fixture.bytes("the list stays", x, 0, 0, 1, 5, 3, 4, 2);
        x.lay(0, 1, 64);
        Due.due("swapped though a leaf is gone", x.swapped(0, 0), 205);
        x.lay(0, 3, 4);
        Due.due("swapped, three astray", x.swapped(0, 0), NONE);
        Fixture.fill(x, 0, 4, 1, 2, 3, 0);
        Due.due("swapped, the first leaf", x.swapped(0, 0), 4);
        Fixture.fill(x, 0, 0, 1, 2);
        Due.due("swapped, none is due", x.swapped(0, 0), 0);
        Due.due("swapped back", x.swapped(0, 1), NONE);
        Fixture.fill(x, 0, 0, 16, 32, 48);
        Due.due("swapped back", x.swapped(0, 1), 102);
        // A gone leaf keeps its place in the list, so a leaf may change places with it.
        Fixture.fill(x, 0, 0, 3, 2, 64);
        Due.due("swapped with a gone leaf", x.swapped(0, 0), 103);
        // 1 56 | 7 32: 0 and 2 make 7 56 | 1 32.
        Fixture.fill(x, 0, 1, 56, 7, 32);
        Due.due("swapped pairs", x.swapped(0, 2), 2);
        // 1 32 | 33 7 | 56 30: the first pair stays, 33 30 or 56 7.
        Fixture.fill(x, 0, 1, 32, 33, 7, 56, 30);
        Due.due("swapped pairs, behind one that fits", x.swapped(0, 2), 204);
        // 3 3 | 48: the last leaf has no other one.
        Fixture.fill(x, 0, 3, 3, 48);
        Due.due("swapped pairs with the last leaf", x.swapped(0, 2), 2);
        Fixture.fill(x, 0, 33, 33);
        Due.due("swapped pairs, none", x.swapped(0, 2), NONE);
        // 8 62: 62 is not 8 turned (4), nor is 8 what 62 turned (31) is.
        Fixture.fill(x, 0, 8, 62);
        Due.due("swapped pairs, none", x.swapped(0, 2), NONE);
        x.row(1, 0);
        Due.due("swapped, no leaves", x.swapped(1, 2), 0);
        Due.due("swapped(0, 3)", x.swapped(0, 3), BAD);
        Due.due("swapped(0, -1)", x.swapped(0, -1), BAD);
        Due.due("swapped(4, 0)", x.swapped(4, 0), BAD);
        Due.finding("swapped, missing", x, x.swapped(2, 0), 1);
    }

    private static void promise27Record() {
        StalkRoom x = new StalkRoom();
        x.caster(false);
        x.caster(true);
        x.stalks(60, 2, false);
        Due.due("record(0, 0, 1, 3)", x.record(0, 0, 1, 3), 3);
        Fixture.bytes("record of sevens", x, 0, 7, 7, 7);
        int[] ofSide = {6, 7, 7, 7, 8, 8, 8, 9};
        int[] want = new int[64];
        long s = -99;
        for (int i = 0; i < 64; i++) {
            s = s * 6364136223846793005L + 1442695040888963407L;
            want[i] = ofSide[(int) ((s >>> 33) % 8)];
        }
        Due.due("record(0, 1, -99, 64)", x.record(0, 1, -99, 64), 64);
        Fixture.bytes("record of coins", x, 0, want);
        Due.due("record(1, 2, 7, 1)", x.record(1, 2, 7, 1), 1);
        Fixture.bytes("record of stalks", x, 1, x.drawn(2, 7));
        Due.due("record(1, 2, 7, 0)", x.record(1, 2, 7, 0), 0);
        Fixture.bytes("record of none", x, 1);
        long before = x.digest();
        Due.due("record(4, 0, 1, 1)", x.record(4, 0, 1, 1), BAD);
        Due.due("record(-1, 0, 1, 1)", x.record(-1, 0, 1, 1), BAD);
        Due.due("record(0, 3, 1, 1)", x.record(0, 3, 1, 1), BAD);
        Due.due("record(0, 0, 1, 65)", x.record(0, 0, 1, 65), BAD);
        Due.due("record(0, 0, 1, -1)", x.record(0, 0, 1, -1), BAD);
        Due.due("digest() behind BAD", x.digest(), before);
        Due.due("count(1)", x.count(1), 2);
    }

    private static void promise28Off() {
        StalkRoom x = new StalkRoom();
        x.caster(false);
        x.caster(true);
        Fixture.fill(x, 0, 7, 7, 7);
        Due.due("off(0, 0)", x.off(0, 0), 1);
        Due.due("asked()", x.asked(), 0);
        // Coins: 125000, 375000, 375000, 125000; the record: 1000000 of 7.
        Due.due("off(0, 1)", x.off(0, 1), 1);
        Due.due("asked()", x.asked(), 125000 + 625000 + 375000 + 125000);
        // 31 and -1 are left out: three count; 333333 each, cut.
        Fixture.fill(x, 1, 0, 31, 7, -1, 30);
        Due.due("off(1, 0)", x.off(1, 0), 1);
        Due.due("asked()", x.asked(), 333333 + 666667 + 333333);
        Fixture.fill(x, 2, 31, -1, 127, -128);
        Due.finding("off, none counts", x, x.off(2, 0), 4);
        x.row(2, 0);
        Due.finding("off, no lines", x, x.off(2, 0), 4);
        Due.finding("off, missing", x, x.off(3, 0), 1);
        Due.due("off(4, 0)", x.off(4, 0), BAD);
        Due.due("off(3, 2), BAD ahead", x.off(3, 2), BAD);
        Due.due("off(0, -1)", x.off(0, -1), BAD);
        Due.due("asked() behind what was refused", x.asked(), 1333333);
    }

    private static void promise29Nearest() {
        StalkRoom x = new StalkRoom();
        Due.due("nearest, no casters", x.nearest(0), STATE);
        Due.due("nearest(4), BAD ahead", x.nearest(4), BAD);
        Due.due("finding() behind STATE", x.finding(), 0);
        x.stalks(49, 4, true);
        x.caster(true);
        x.caster(true);
        x.caster(false);
        Due.finding("nearest, missing", x, x.nearest(0), 1);
        Fixture.fill(x, 0, 31, -1);
        Due.finding("nearest, none counts", x, x.nearest(0), 4);
        Fixture.fill(x, 0, 6, 7, 7, 7, 8, 8, 8, 9);
        Due.due("nearest, coins", x.nearest(0), 1);
        Fixture.fill(x, 0, 7, 7, 7, 7, 7, 7, 7);
        Due.due("nearest, sevens", x.nearest(0), 3);
        Fixture.fill(x, 0, 30);
        Due.due("asked() is not told by nearest", x.asked(), 0);
        // Each is off by all of its parts and a million; the stalks' parts are cut, so less.
        Due.due("nearest, none near", x.nearest(0), 0);
        Due.due("nearest(-1)", x.nearest(-1), BAD);
    }

    private static void promise30Lost() {
        StalkRoom x = new StalkRoom();
        x.stalks(49, 4, true);
        x.caster(true);
        x.stalks(5, 2, true);
        x.caster(false);
        x.thumb(8, 2, false, 2, 3);
        x.stalks(8, 2, false);
        x.record(0, 0, 17, 64);
        Due.due("lost(0, 0)", x.lost(0, 0), 0);
        Fixture.fill(x, 1, 0);
        // By 2 from 5 or 4 stalks only 0 comes, so none is lost.
        Due.due("lost(1, 2)", x.lost(1, 2), 0);
        // Of 8 stalks 27 of 35 lines are 0 (7 of 8 with the thumb); of 7 always 4 are left, then 2 at most, then 0.
        Due.due("lost(1, 5)", x.lost(1, 5), 1);
        Due.due("lost(1, 4)", x.lost(1, 4), 1);
        // Cast with 12 stalks, with 11, by one that had 20: 8 lost at most.
        x.stalks(20, 2, true);
        x.stalks(12, 2, true);
        x.stalks(11, 2, true);
        x.record(2, 7, 0, 64);
        Due.due("lost(2, 6), cast with 12", x.lost(2, 6), 8);
        x.record(2, 8, 0, 64);
        Due.due("lost(2, 6), cast with 11", x.lost(2, 6), 8);
        Due.finding("lost, coins", x, x.lost(1, 1), 3);
        Due.finding("lost, kind 0", x, x.lost(1, 3), 3);
        Fixture.fill(x, 2, 31);
        Due.finding("lost, UNLIKE ahead of NOUGHT", x, x.lost(2, 1), 3);
        Due.finding("lost, none counts", x, x.lost(2, 0), 4);
        Due.finding("lost, NOTHING ahead of UNLIKE", x, x.lost(3, 1), 1);
        Due.due("lost(4, 0)", x.lost(4, 0), BAD);
        Due.due("lost(0, 9)", x.lost(0, 9), BAD);
        Due.due("lost(3, -1), BAD ahead", x.lost(3, -1), BAD);
    }

    private static void promise31Need() {
        StalkRoom x = new StalkRoom();
        x.caster(false);
        x.caster(true);
        x.stalks(49, 4, true);
        x.stalks(48, 4, true);
        x.stalks(4, 2, true);
        x.caster(true);
        x.stalks(5, 3, true);
        // 125000 + 625000 + 375000 + 125000 = 1250000: 8 times that is 10000000.
        Due.due("need(0, 1)", x.need(0, 1), 8);
        Due.due("need(1, 0)", x.need(1, 0), 8);
        Due.due("need(2, 3)", x.need(2, 3), 43);
        Due.due("need(0, 4), nothing alike", x.need(0, 4), 5);
        Due.due("need(1, 1)", x.need(1, 1), NONE);
        Due.due("need(1, 5), alike", x.need(1, 5), NONE);
        Due.due("need(4, 6), alike parts of other stalks", x.need(4, 6), NONE);
        Due.due("need(0, 7)", x.need(0, 7), BAD);
        Due.due("need(-1, 0)", x.need(-1, 0), BAD);
    }
}
