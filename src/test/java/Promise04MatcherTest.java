/** Promise 4: matcher, and what each MATCHER looks at. */
public final class Promise04MatcherTest {
    private static final int MIN = Integer.MIN_VALUE, MAX = Integer.MAX_VALUE;

    public static void main(String[] args) {
        simpleKinds();
        joinedKinds();
        eachOneTakesFromTheTop();
        theLowestIsForA();
        outOfRange();
        fullByNumber();
        fullBySize();
        tooFew();
        statesBehindMatcher();
        Due.end();
    }

    /** A new STAND-IN whose METHODS have 0, 1, 2 and 1 PARAMETERS; the last does not GIVE. */
    private static StandIns standIn() {
        StandIns x = new StandIns();
        x.define(0, 1, 1, true);
        x.define(0, 2, 2, true);
        x.define(0, 3, 1, false);
        x.make(0, 0);
        return x;
    }

    /** Tells, with the MATCHERS that stand on the STACK, and says which of the ints they match. */
    private static void matches(StandIns x, int[] yes, int[] no) {
        int stacked = x.count(4);
        Due.due(1, stacked);
        Due.due(0, x.call(0, 1, 0, 0));
        Due.due(0, x.when());
        Due.due(1, x.answer(0, 77));
        for (int v : yes) {
            Due.due(77, x.call(0, 1, v, 0));
        }
        for (int v : no) {
            Due.due(0, x.call(0, 1, v, 0));
        }
    }

    private static int[] ints(int... values) {
        return values;
    }

    private static StandIns with(int... kindsAndValues) {
        StandIns x = standIn();
        for (int i = 0; i < kindsAndValues.length; i += 2) {
            x.matcher(kindsAndValues[i], kindsAndValues[i + 1]);
        }
        return x;
    }

    private static void simpleKinds() {
        matches(with(0, 5), ints(0, 5, -1, MIN, MAX), ints());
        matches(with(7, 5), ints(0, 5, -1, MIN, MAX), ints());
        matches(with(1, 5), ints(5), ints(4, 6, -5, 0));
        matches(with(1, MIN), ints(MIN), ints(MAX, 0));
        matches(with(2, 5), ints(4, -9, MIN), ints(5, 6, MAX));
        matches(with(2, MIN), ints(), ints(MIN, MAX, 0));
        matches(with(3, 5), ints(6, MAX), ints(5, 4, MIN));
        matches(with(3, MAX), ints(), ints(MIN, MAX, 0));
    }

    private static void joinedKinds() {
        matches(with(3, 2, 2, 6, 4, 0), ints(3, 4, 5), ints(2, 6, MIN, MAX));
        matches(with(2, 2, 3, 6, 5, 0), ints(1, 7, MIN, MAX), ints(2, 3, 6));
        matches(with(1, 1, 6, 9), ints(0, 2, 9), ints(1));
        matches(with(0, 0, 6, 0), ints(), ints(0, 1));
        matches(with(7, 0, 6, 0), ints(), ints(0, 1));
        matches(with(1, 1, 6, 0, 6, 0), ints(1), ints(0, 2));
        matches(with(1, 1, 1, 2, 5, 0, 1, 3, 5, 0), ints(1, 2, 3), ints(0, 4));
        matches(with(3, 0, 2, 9, 4, 0, 1, 4, 6, 0, 4, 0), ints(1, 3, 5, 8), ints(0, 4, 9));
        matches(with(1, 1, 3, 5, 2, 8, 4, 0, 5, 0), ints(1, 6, 7), ints(0, 2, 5, 8));
    }

    private static void eachOneTakesFromTheTop() {
        StandIns x = standIn();
        Due.due(1, x.matcher(1, 1));
        Due.due(2, x.matcher(1, 2));
        Due.due(3, x.matcher(1, 3));
        Due.due(2, x.matcher(5, 0));
        Due.due(2, x.matcher(6, 0));
        Due.due(0, x.call(0, 2, 0, 0));
        Due.due(0, x.when());
        Due.due(1, x.answer(0, 5));
        Due.due(5, x.call(0, 2, 1, 1));
        Due.due(0, x.call(0, 2, 1, 2));
        Due.due(0, x.call(0, 2, 1, 3));
        Due.due(0, x.call(0, 2, 2, 1));
    }

    private static void theLowestIsForA() {
        StandIns x = standIn();
        Due.due(1, x.matcher(2, 0));
        Due.due(2, x.matcher(3, 0));
        Due.due(0, x.call(0, 2, 8, 8));
        Due.due(0, x.count(4));
        Due.due(0, x.when());
        Due.due(1, x.answer(0, 5));
        Due.due(5, x.call(0, 2, -1, 1));
        Due.due(0, x.call(0, 2, 1, -1));
        Due.due(0, x.call(0, 2, -1, -1));
    }

    private static void outOfRange() {
        StandIns x = standIn();
        Due.due(1, x.matcher(0, 0));
        for (int bad : ints(-1, 8, MIN, MAX)) {
            Due.due(StandIns.REFUSED, x.matcher(bad, 0));
        }
        Due.due(1, x.count(4));
        Due.due(2, x.matcher(7, MIN));
        Due.due(0, x.count(9));
    }

    private static void fullByNumber() {
        StandIns x = standIn();
        for (int i = 1; i <= 6; i++) {
            Due.due(i, x.matcher(i % 4, i));
        }
        for (int kind : ints(0, 1, 2, 3, 7)) {
            Due.due(StandIns.FULL, x.matcher(kind, 0));
        }
        Due.due(6, x.count(4));
        Due.due(6, x.matcher(6, 0));
        Due.due(5, x.matcher(4, 0));
        Due.due(6, x.matcher(7, 0));
        Due.due(5, x.matcher(5, 0));
        Due.due(0, x.count(9));
    }

    private static void fullBySize() {
        StandIns x = standIn();
        Due.due(1, x.matcher(1, 4));
        for (int size = 2; size <= 8; size++) {
            Due.due(1, x.matcher(6, 0));
        }
        Due.due(StandIns.FULL, x.matcher(6, 0));
        Due.due(1, x.count(4));
        Due.due(StandIns.WRONG, x.matcher(4, 0));
        Due.due(1, x.matcher(0, 0));
        Due.due(2, x.matcher(0, 0));
        for (int size = 2; size <= 6; size++) {
            Due.due(2, x.matcher(6, 0));
        }
        Due.due(1, x.matcher(4, 0));
        Due.due(2, x.matcher(0, 0));
        Due.due(StandIns.FULL, x.matcher(4, 0));
        Due.due(StandIns.FULL, x.matcher(5, 0));
        Due.due(2, x.count(4));
        Due.due(2, x.matcher(6, 0));
        Due.due(1, x.count(9));
        Due.due(0, x.call(0, 2, 0, 0));
    }

    private static void tooFew() {
        StandIns x = standIn();
        Due.due(StandIns.WRONG, x.matcher(4, 0));
        Due.due(StandIns.WRONG, x.matcher(5, 0));
        Due.due(StandIns.WRONG, x.matcher(6, 0));
        Due.due(3, x.count(9));
        Due.due(1, x.answer(0, 3));
        Due.due(1, x.matcher(0, 0));
        Due.due(StandIns.WRONG, x.matcher(5, 0));
        Due.due(0, x.count(4));
        Due.due(0, x.count(6));
        Due.due(1, x.answer(0, 3));
        Due.due(1, x.told(0));
        Due.due(1, x.matcher(0, 0));
        Due.due(StandIns.WRONG, x.matcher(4, 0));
        Due.due(0, x.count(5));
        Due.due(0, x.count(6));
    }

    private static void statesBehindMatcher() {
        StandIns x = standIn();
        Due.due(1, x.answer(0, 3));
        Due.due(1, x.told(0));
        Due.due(1, x.matcher(0, 0));
        Due.due(2, x.count(5));
        Due.due(0, x.call(0, 1, 0, 0));
        Due.due(1, x.check(0, 0, 0));
        Due.due(1, x.matcher(0, 0));
        Due.due(3, x.count(5));
        Due.due(StandIns.PASSED, x.call(0, 1, 0, 0));
        Due.due(3, x.call(0, 1, 0, 0));
        Due.due(1, x.count(5));
        Due.due(1, x.matcher(0, 0));
        Due.due(0, x.count(5));
        Due.due(3, x.call(0, 1, 0, 0));
        Due.due(1, x.when());
        Due.due(StandIns.REFUSED, x.matcher(8, 0));
        Due.due(4, x.count(5));
        Due.due(StandIns.UNFINISHED, x.matcher(4, 0));
        Due.due(0, x.telling(1, 4));
        Due.due(3, x.call(0, 1, 0, 0));
        Due.due(2, x.when());
        Due.due(1, x.answer(0, 1));
        Due.due(1, x.matcher(0, 0));
        Due.due(0, x.count(5));
        Due.due(1, x.telling(2, 4));
    }
}
