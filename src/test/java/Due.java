/** What the tests share: answers held against those that are due, counted and told. */
final class Due {
    private static int wrong = 0;
    private static int held = 0;

    private Due() { }

    static void due(String call, long got, long want) {
        held++;
        if (got != want) {
            wrong++;
            System.out.println(call + " answered " + got + ", due is " + want);
        }
    }

    static void fraction(String call, StalkRoom x, int got, long upper, long lower) {
        due(call, got, 1);
        due(call + " upper()", x.upper(), upper);
        due(call + " lower()", x.lower(), lower);
    }

    static void finding(String call, StalkRoom x, int got, int finding) {
        due(call, got, StalkRoom.FINDING);
        due(call + " finding()", x.finding(), finding);
    }

    static void end() {
        System.out.println(held + " answers held, " + wrong + " wrong");
        if (wrong != 0) {
            System.exit(1);
        }
    }
}
