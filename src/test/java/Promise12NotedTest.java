/** Promise 12: noted. */
public final class Promise12NotedTest {
    public static void main(String[] args) {
        whatIsNoted();
        aTakenBackCallIsNot();
        aRowUsedAgainIsNotSeen();
        others();
        questionsChangeNothing();
        Due.end();
    }

    private static StandIns standIns() {
        StandIns x = new StandIns();
        x.define(0, 1, 1, true);
        x.define(0, 2, 2, true);
        x.make(0, 0);
        x.make(0, 0);
        return x;
    }

    private static void row(StandIns x, int k, int... dues) {
        for (int what = 0; what < dues.length; what++) {
            Due.due(dues[what], x.noted(k, what));
        }
    }

    private static void whatIsNoted() {
        StandIns x = standIns();
        x.answer(0, 5);
        x.told(1);
        x.call(1, 2, 8, 9);
        Due.due(0, x.call(0, 0, 11, 12));
        Due.due(0, x.call(1, 1, 11, 12));
        Due.due(5, x.call(1, 2, 8, 9));
        Due.due(0, x.call(0, 2, Integer.MIN_VALUE, Integer.MAX_VALUE));
        row(x, 0, 0, 0, 0, 0, 0, 0, -1);
        row(x, 1, 1, 1, 1, 11, 0, 0, -1);
        row(x, 2, 2, 1, 2, 8, 9, 0, 0);
        row(x, 3, 3, 0, 2, Integer.MIN_VALUE, Integer.MAX_VALUE, 0, -1);
        x.check(1, 0, 1);
        x.call(1, 2, 8, 9);
        row(x, 2, 2, 1, 2, 8, 9, 1, 0);
        row(x, 1, 1, 1, 1, 11, 0, 0, -1);
    }

    private static void aTakenBackCallIsNot() {
        StandIns x = standIns();
        x.call(0, 1, 1, 0);
        x.call(0, 1, 2, 0);
        x.when();
        x.answer(0, 6);
        Due.due(StandIns.REFUSED, x.noted(1, 0));
        x.call(1, 1, 3, 0);
        row(x, 0, 0, 0, 1, 1, 0, 0, -1);
        row(x, 1, 2, 1, 1, 3, 0, 0, -1);
        Due.due(6, x.call(0, 1, 2, 0));
        row(x, 2, 3, 0, 1, 2, 0, 0, 0);
    }

    private static void aRowUsedAgainIsNotSeen() {
        StandIns x = standIns();
        x.answer(0, 6);
        x.told(0);
        x.call(0, 0, 0, 0);
        Due.due(6, x.call(0, 0, 0, 0));
        Due.due(1, x.when());
        x.answer(0, 7);
        x.call(1, 0, 0, 0);
        row(x, 0, 1, 1, 0, 0, 0, 0, -1);
    }

    private static void others() {
        StandIns x = standIns();
        x.call(0, 0, 0, 0);
        for (int bad : new int[] {-1, 7, Integer.MIN_VALUE, Integer.MAX_VALUE}) {
            Due.due(StandIns.REFUSED, x.noted(0, bad));
        }
        for (int bad : new int[] {-1, 1, 40, Integer.MIN_VALUE, Integer.MAX_VALUE}) {
            Due.due(StandIns.REFUSED, x.noted(bad, 1));
        }
        for (int i = 1; i < 40; i++) {
            x.call(0, 0, 0, 0);
        }
        Due.due(39, x.noted(39, 0));
        Due.due(StandIns.REFUSED, x.noted(40, 0));
    }

    private static void questionsChangeNothing() {
        StandIns x = standIns();
        x.answer(0, 1);
        x.told(0);
        x.matcher(0, 0);
        x.noted(0, 0);
        x.noted(-1, 9);
        x.telling(0, 0);
        x.found(0);
        x.caught(0);
        x.count(10);
        Due.due(0, x.count(9));
        Due.due(2, x.count(5));
        Due.due(1, x.count(4));
        Due.due(0, x.call(0, 1, 0, 0));
    }
}
