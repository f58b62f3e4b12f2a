/** Promise 10: noMore. */
public final class Promise10NoMoreTest {
    public static void main(String[] args) {
        theFirstNotSeen();
        numbersNotPlaces();
        refused();
        misuse();
        Due.end();
    }

    private static StandIns standIns() {
        StandIns x = new StandIns();
        x.define(0, 1, 1, true);
        x.make(0, 0);
        x.make(0, 0);
        return x;
    }

    private static void passed(StandIns x, int a) {
        Due.due(1, x.check(0, 1, 1));
        Due.due(StandIns.PASSED, x.call(0, 1, a, 0));
    }

    private static void theFirstNotSeen() {
        StandIns x = standIns();
        Due.due(-6, x.noMore(0));
        x.call(1, 0, 0, 0);
        Due.due(-6, x.noMore(0));
        Due.due(0, x.noMore(1));
        x.call(0, 1, 5, 0);
        x.call(0, 1, 6, 0);
        x.call(0, 1, 5, 0);
        Due.due(1, x.noMore(0));
        Due.due(0, x.count(5));
        passed(x, 5);
        Due.due(2, x.noMore(0));
        passed(x, 6);
        Due.due(-6, x.noMore(0));
        Due.due(0, x.noMore(1));
        x.call(0, 1, 5, 0);
        Due.due(4, x.noMore(0));
    }

    private static void numbersNotPlaces() {
        StandIns x = standIns();
        x.call(0, 1, 5, 0);
        x.when();
        x.answer(0, 1);
        Due.due(-6, x.noMore(0));
        x.call(0, 1, 5, 0);
        Due.due(1, x.noMore(0));
        passed(x, 5);
        x.call(0, 1, 5, 0);
        x.when();
        x.answer(0, 1);
        x.call(0, 1, 7, 0);
        Due.due(3, x.noMore(0));
    }

    private static void refused() {
        StandIns x = standIns();
        x.call(0, 0, 0, 0);
        for (int bad : new int[] {-1, 2, Integer.MIN_VALUE, Integer.MAX_VALUE}) {
            Due.due(StandIns.REFUSED, x.noMore(bad));
        }
        Due.due(1, x.count(5));
        x.check(0, 0, 0);
        Due.due(StandIns.REFUSED, x.noMore(2));
        Due.due(3, x.count(5));
    }

    private static void misuse() {
        StandIns x = standIns();
        x.call(0, 0, 0, 0);
        x.check(0, 0, 0);
        Due.due(StandIns.UNFINISHED, x.noMore(0));
        x.matcher(0, 0);
        Due.due(StandIns.MISPLACED, x.noMore(0));
        x.answer(0, 1);
        x.told(1);
        Due.due(StandIns.UNFINISHED, x.noMore(1));
        x.call(0, 0, 0, 0);
        x.when();
        Due.due(StandIns.UNFINISHED, x.noMore(0));
        Due.due(4, x.count(9));
        Due.due(0, x.noMore(0));
    }
}
