/** Promise 3: make. */
public final class Promise03MakeTest {
    public static void main(String[] args) {
        numbersAndKinds();
        typesAreKept();
        outOfRange();
        fullBehindSix();
        misuse();
        Due.end();
    }

    private static void numbersAndKinds() {
        StandIns x = new StandIns();
        Due.due(0, x.make(0, 0));
        Due.due(1, x.make(0, 1));
        Due.due(2, x.make(0, 2));
        Due.due(3, x.count(0));
        Due.due(0, x.call(0, 3, 0, 0));
        Due.due(21, x.call(1, 3, 0, 0));
        Due.due(StandIns.UNTOLD, x.call(2, 3, 0, 0));
    }

    private static void typesAreKept() {
        StandIns x = new StandIns();
        Due.due(1, x.define(0, 0, 0, true));
        Due.due(1, x.define(1, 0, 1, true));
        Due.due(1, x.define(2, 0, 2, true));
        Due.due(0, x.make(2, 1));
        Due.due(1, x.make(0, 1));
        Due.due(2, x.make(1, 1));
        Due.due(20, x.call(0, 0, 10, 10));
        Due.due(0, x.call(1, 0, 10, 10));
        Due.due(30, x.call(2, 0, 10, 10));
    }

    private static void outOfRange() {
        StandIns x = new StandIns();
        for (int bad : new int[] {-1, 3, Integer.MIN_VALUE, Integer.MAX_VALUE}) {
            Due.due(StandIns.REFUSED, x.make(bad, 0));
            Due.due(StandIns.REFUSED, x.make(0, bad));
        }
        Due.due(0, x.count(0));
        Due.due(0, x.count(9));
    }

    private static void fullBehindSix() {
        StandIns x = new StandIns();
        for (int i = 0; i < 6; i++) {
            Due.due(i, x.make(i % 3, i % 3));
        }
        Due.due(1, x.check(5, 0, 0));
        Due.due(StandIns.REFUSED, x.make(3, 0));
        Due.due(StandIns.FULL, x.make(0, 0));
        Due.due(3, x.count(5));
        Due.due(6, x.count(0));
        Due.due(StandIns.PASSED, x.call(5, 0, 0, 0));
    }

    private static void misuse() {
        StandIns x = new StandIns();
        Due.due(1, x.matcher(0, 0));
        Due.due(StandIns.MISPLACED, x.make(0, 0));
        Due.due(0, x.count(0));
        Due.due(0, x.make(0, 0));
        Due.due(1, x.check(0, 0, 0));
        Due.due(StandIns.UNFINISHED, x.make(0, 0));
        Due.due(1, x.count(0));
        Due.due(0, x.call(0, 0, 0, 0));
        Due.due(1, x.make(0, 0));
        Due.due(0, x.count(5));
        Due.due(StandIns.WRONG, x.when());
    }
}
