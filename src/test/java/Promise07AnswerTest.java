/** Promise 7: answer. */
public final class Promise07AnswerTest {
    private static final int MIN = Integer.MIN_VALUE, MAX = Integer.MAX_VALUE;

    public static void main(String[] args) {
        toATelling();
        toThosePrepared();
        preparedOnesOutlastOtherSteps();
        refused();
        fullBehindFour();
        wrongForTheMethod();
        misuse();
        Due.end();
    }

    /** METHODS 0 to 3 have 0, 1, 2 and 2 PARAMETERS; the last does not GIVE. */
    private static StandIns standIn() {
        StandIns x = new StandIns();
        x.define(0, 1, 1, true);
        x.define(0, 2, 2, true);
        x.define(0, 3, 2, false);
        x.make(0, 0);
        return x;
    }

    private static StandIns telling(int m) {
        StandIns x = standIn();
        x.call(0, m, 1, 2);
        Due.due(0, x.when());
        return x;
    }

    private static void toATelling() {
        StandIns x = telling(2);
        Due.due(1, x.answer(0, MAX));
        Due.due(4, x.count(5));
        Due.due(2, x.answer(1, 999));
        Due.due(3, x.answer(2, 1));
        Due.due(4, x.answer(3, -1));
        Due.due(4, x.count(5));
        Due.due(4, x.telling(0, 2));
        Due.due(0, x.count(6));
        Due.due(MAX, x.call(0, 2, 1, 2));
        Due.due(StandIns.THROWN + 999, x.call(0, 2, 1, 2));
        Due.due(2, x.call(0, 2, 1, 2));
        Due.due(15, x.call(0, 2, 1, 2));
        Due.due(15, x.call(0, 2, 1, 2));
    }

    private static void toThosePrepared() {
        StandIns x = standIn();
        Due.due(1, x.answer(0, 3));
        Due.due(0, x.count(5));
        Due.due(2, x.answer(1, 0));
        Due.due(2, x.count(6));
        x.call(0, 0, 0, 0);
        Due.due(3, x.answer(2, 0));
        Due.due(0, x.count(5));
        Due.due(StandIns.WRONG, x.when());
    }

    private static void preparedOnesOutlastOtherSteps() {
        StandIns x = standIn();
        Due.due(1, x.answer(0, 3));
        x.check(0, 0, 0);
        Due.due(StandIns.PASSED, x.call(0, 0, 0, 0));
        x.call(0, 0, 0, 0);
        Due.due(0, x.when());
        Due.due(1, x.answer(0, 5));
        Due.due(2, x.answer(0, 6));
        Due.due(1, x.count(6));
        Due.due(1, x.told(0));
        Due.due(0, x.call(0, 1, 0, 0));
        Due.due(5, x.call(0, 0, 0, 0));
        Due.due(3, x.call(0, 1, 0, 0));
    }

    private static void refused() {
        StandIns x = standIn();
        for (int bad : new int[] {-1, 4, MIN, MAX}) {
            Due.due(StandIns.REFUSED, x.answer(bad, 0));
        }
        for (int bad : new int[] {-1, 1000, MIN, MAX}) {
            Due.due(StandIns.REFUSED, x.answer(1, bad));
        }
        for (int bad : new int[] {-1, 2, MIN, MAX}) {
            Due.due(StandIns.REFUSED, x.answer(2, bad));
        }
        Due.due(0, x.count(6));
        Due.due(1, x.answer(0, MIN));
        Due.due(2, x.answer(3, MAX));
        Due.due(2, x.told(0));
        Due.due(StandIns.REFUSED, x.answer(2, 2));
        Due.due(2, x.count(5));
        Due.due(0, x.count(9));
        StandIns y = telling(2);
        Due.due(StandIns.REFUSED, y.answer(1, 1000));
        Due.due(4, y.count(5));
        Due.due(1, y.answer(1, 999));
    }

    private static void fullBehindFour() {
        StandIns x = standIn();
        for (int i = 1; i <= 4; i++) {
            Due.due(i, x.answer(0, i));
        }
        Due.due(StandIns.FULL, x.answer(0, 5));
        Due.due(StandIns.REFUSED, x.answer(4, 5));
        x.call(0, 2, 0, 0);
        Due.due(StandIns.FULL, x.answer(0, 5));
        Due.due(1, x.count(5));
        Due.due(0, x.when());
        for (int i = 1; i <= 4; i++) {
            Due.due(i, x.answer(0, 10 * i));
        }
        Due.due(StandIns.FULL, x.answer(0, 5));
        Due.due(4, x.count(5));
        Due.due(4, x.told(0));
        Due.due(StandIns.FULL, x.answer(0, 5));
        Due.due(2, x.count(5));
        Due.due(0, x.call(0, 1, 0, 0));
        Due.due(1, x.answer(0, 5));
        Due.due(0, x.count(9));
        fullBeforeWrong();
    }

    private static void fullBeforeWrong() {
        StandIns x = telling(3);
        for (int i = 1; i <= 4; i++) {
            Due.due(i, x.answer(1, i));
        }
        Due.due(StandIns.FULL, x.answer(0, 0));
        Due.due(4, x.count(5));
        Due.due(0, x.count(9));
    }

    private static void wrongForTheMethod() {
        wrong(0, 2, 0);
        wrong(0, 2, 1);
        wrong(1, 2, 1);
        wrong(3, 0, 0);
        wrong(3, 2, 0);
        wrong(3, 3, 0);
        StandIns x = telling(1);
        Due.due(1, x.answer(2, 0));
        Due.due(StandIns.WRONG, x.answer(2, 1));
        Due.due(1, x.telling(0, 4));
        Due.due(1, x.telling(0, 2));
        Due.due(0, x.count(5));
        Due.due(1, x.call(0, 1, 1, 0));
    }

    private static void wrong(int m, int kind, int v) {
        StandIns x = standIn();
        x.answer(0, 1);
        x.call(0, m, 1, 2);
        x.when();
        Due.due(StandIns.WRONG, x.answer(kind, v));
        Due.due(0, x.telling(0, 4));
        Due.due(0, x.telling(0, 2));
        Due.due(0, x.count(5));
        Due.due(0, x.count(6));
        Due.due(1, x.count(9));
    }

    private static void misuse() {
        StandIns x = standIn();
        Due.due(1, x.answer(0, 1));
        Due.due(1, x.told(0));
        Due.due(StandIns.UNFINISHED, x.answer(0, 1));
        Due.due(0, x.count(6));
        Due.due(1, x.answer(0, 1));
        Due.due(1, x.check(0, 0, 0));
        Due.due(1, x.matcher(0, 0));
        Due.due(StandIns.UNFINISHED, x.answer(0, 1));
        Due.due(0, x.count(4));
        Due.due(0, x.count(6));
        Due.due(1, x.answer(0, 1));
        Due.due(1, x.matcher(0, 0));
        Due.due(StandIns.MISPLACED, x.answer(0, 1));
        Due.due(0, x.count(4));
        Due.due(0, x.count(6));
    }
}
