/** Promise 8: told. */
public final class Promise08ToldTest {
    public static void main(String[] args) {
        theNextCallSaysForWhat();
        withMatchers();
        refused();
        wrongIfNoneArePrepared();
        misuse();
        Due.end();
    }

    private static StandIns standIns() {
        StandIns x = new StandIns();
        x.define(0, 1, 1, true);
        x.make(0, 2);
        x.make(0, 2);
        return x;
    }

    private static void theNextCallSaysForWhat() {
        StandIns x = standIns();
        x.answer(0, 4);
        x.answer(0, 5);
        x.answer(0, 6);
        Due.due(3, x.told(1));
        Due.due(2, x.count(5));
        Due.due(3, x.count(6));
        Due.due(0, x.call(1, 1, 9, 0));
        Due.due(0, x.count(6));
        Due.due(0, x.count(1));
        Due.due(1, x.telling(0, 0));
        Due.due(1, x.telling(0, 1));
        Due.due(3, x.telling(0, 2));
        Due.due(0, x.telling(0, 3));
        Due.due(1, x.telling(0, 4));
        Due.due(4, x.call(1, 1, 9, 0));
        Due.due(5, x.call(1, 1, 9, 0));
        Due.due(6, x.call(1, 1, 9, 0));
        Due.due(6, x.call(1, 1, 9, 0));
        Due.due(StandIns.UNTOLD, x.call(0, 1, 9, 0));
        Due.due(StandIns.UNTOLD, x.call(1, 1, 8, 0));
    }

    private static void withMatchers() {
        StandIns x = standIns();
        x.answer(2, 0);
        Due.due(1, x.told(0));
        x.matcher(3, 5);
        x.matcher(6, 0);
        Due.due(0, x.call(0, 1, 100, 0));
        Due.due(5, x.call(0, 1, 5, 0));
        Due.due(StandIns.UNTOLD, x.call(0, 1, 6, 0));
    }

    private static void refused() {
        StandIns x = standIns();
        x.answer(0, 1);
        for (int bad : new int[] {-1, 2, Integer.MIN_VALUE, Integer.MAX_VALUE}) {
            Due.due(StandIns.REFUSED, x.told(bad));
        }
        Due.due(1, x.count(6));
        Due.due(1, x.told(1));
        Due.due(StandIns.REFUSED, x.told(2));
        Due.due(2, x.count(5));
        Due.due(0, x.count(9));
    }

    private static void wrongIfNoneArePrepared() {
        StandIns x = standIns();
        Due.due(StandIns.WRONG, x.told(0));
        Due.due(0, x.count(5));
        Due.due(0, x.count(6));
        Due.due(1, x.count(9));
        x.answer(0, 1);
        x.told(0);
        x.call(0, 0, 0, 0);
        Due.due(StandIns.WRONG, x.told(0));
        x.call(0, 1, 0, 0);
        Due.due(StandIns.WRONG, x.told(0));
        Due.due(StandIns.WRONG, x.when());
    }

    private static void misuse() {
        StandIns x = standIns();
        x.answer(0, 1);
        Due.due(1, x.told(0));
        Due.due(StandIns.UNFINISHED, x.told(0));
        x.answer(0, 1);
        x.matcher(0, 0);
        Due.due(StandIns.MISPLACED, x.told(0));
        Due.due(0, x.count(6));
        x.matcher(0, 0);
        Due.due(StandIns.MISPLACED, x.told(0));
        x.answer(0, 1);
        x.call(0, 1, 0, 0);
        x.when();
        Due.due(StandIns.UNFINISHED, x.told(0));
        Due.due(0, x.count(6));
        x.check(0, 0, 0);
        Due.due(StandIns.UNFINISHED, x.told(0));
    }
}
