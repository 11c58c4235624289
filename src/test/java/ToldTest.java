/** Promises 32 to 38: what is told. */
public final class ToldTest {
    private static final int BAD = StalkRoom.BAD;

    public static void main(String[] args) {
        promise32Asked();
        promises33And34UpperLower();
        promise35Count();
        promises36And37Findings();
        promise38Digest();
        Due.end();
    }

    private static void promise32Asked() {
        StalkRoom x = new StalkRoom();
        Due.due("asked() before", x.asked(), 0);
        x.row(0, 2);
        x.lacks(0);
        Due.due("asked() of lacks", x.asked(), -2);
        x.follows(0);
        Due.due("asked() of follows", x.asked(), 1);
        x.caster(false);
        x.off(0, 0);
        Due.due("asked() of off", x.asked(), 2000000);
        x.nearest(0);
        x.need(0, 0);
        x.misfits(0, 0);
        x.lacks(1);
        x.follows(4);
        x.off(0, 1);
        Due.due("asked() stays", x.asked(), 2000000);
    }

    private static void promises33And34UpperLower() {
        StalkRoom x = new StalkRoom();
        Due.due("upper() before", x.upper(), 0);
        Due.due("lower() before", x.lower(), 1);
        x.caster(true);
        x.odds(0, 7);
        Due.due("upper() of odds", x.upper(), 3);
        Due.due("lower() of odds", x.lower(), 8);
        x.mean(0);
        Due.due("upper() of mean", x.upper(), 15);
        Due.due("lower() of mean", x.lower(), 2);
        x.mean(1);
        x.odds(0, 31);
        Due.due("upper() behind BAD", x.upper(), 15);
        Due.due("lower() behind BAD", x.lower(), 2);
        x.odds(0, 0);
        Due.due("upper() of none", x.upper(), 0);
        Due.due("lower() of none", x.lower(), 1);
    }

    private static void promise35Count() {
        StalkRoom x = new StalkRoom();
        x.caster(true);
        x.stalks(49, 4, false);
        x.row(3, 1);
        x.set(0, 0, 6);
        x.set(7, 5, 9);
        x.set(7, 4, 7);
        Due.due("count(0)", x.count(0), 2);
        Due.due("count(1)", x.count(1), 1);
        Due.due("count(2)", x.count(2), 2);
        x.record(0, 0, 1, 1);
        Due.due("count(1) behind record", x.count(1), 2);
        x.tear(3);
        Due.due("count(1) behind tear", x.count(1), 1);
        x.act(7, 0, 7);
        Due.due("count(2) behind change", x.count(2), 1);
        Due.due("count(3)", x.count(3), BAD);
        Due.due("count(-1)", x.count(-1), BAD);
    }

    private static void promises36And37Findings() {
        StalkRoom x = new StalkRoom();
        Due.due("finding() before", x.finding(), 0);
        for (int f = 1; f <= 5; f++) {
            Due.due("findings before", x.findings(f), 0);
        }
        x.caster(true);
        Due.finding("NOTHING", x, x.tear(0), 1);
        Due.finding("BEYOND", x, x.get(0, 6), 2);
        Due.finding("UNLIKE", x, x.mark(0, 1), 3);
        x.row(0, 0);
        Due.finding("NOUGHT", x, x.nearest(0), 4);
        Due.finding("SIZE", x, x.row(0, -1), 5);
        Due.finding("BEYOND again", x, x.set(0, -1, 6), 2);
        int[] want = {1, 2, 1, 1, 1};
        for (int f = 1; f <= 5; f++) {
            Due.due("findings(" + f + ")", x.findings(f), want[f - 1]);
        }
        x.get(8, 8);
        x.tear(9);
        Due.due("finding() behind BAD", x.finding(), 2);
        Due.due("findings(0)", x.findings(0), BAD);
        Due.due("findings(6)", x.findings(6), BAD);
        Due.due("findings(-1)", x.findings(-1), BAD);
        Due.due("finding() behind what went well", x.row(1, 1) + x.finding(), 3);
    }

    private static void promise38Digest() {
        StalkRoom x = new StalkRoom();
        x.caster(false);
        x.stalks(49, 4, true);
        x.thumb(20, 3, false, 1, 2);
        x.set(0, 0, 6);
        x.set(7, 5, 9);
        x.row(1, 3);
        x.lay(1, 0, -1);
        x.lay(1, 2, 100);
        x.row(2, 0);
        long h = 17;
        for (int v : new int[] {0, -9, -9, -9, 1, 49, 4, 1, 3, 20, 3, 0, 6}) {
            h = 31 * h + v;
        }
        for (int i = 0; i < 46; i++) {
            h = 31 * h + 8;
        }
        for (int v : new int[] {9, -1, 3, -1, 0, 100, 0, -1}) {
            h = 31 * h + v;
        }
        Due.due("digest()", x.digest(), h);
        Due.due("digest() again", x.digest(), h);
        x.row(1, 5);
        x.tear(1);
        x.tear(2);
        x.set(0, 0, 8);
        x.set(7, 5, 8);
        long torn = 17;
        for (int v : new int[] {0, -9, -9, -9, 1, 49, 4, 1, 3, 20, 3, 0}) {
            torn = 31 * torn + v;
        }
        for (int i = 0; i < 48; i++) {
            torn = 31 * torn + 8;
        }
        for (int i = 0; i < 4; i++) {
            torn = 31 * torn - 1;
        }
        Due.due("digest() behind tear", x.digest(), torn);
    }
}
