/** Promise 11: restart. */
public final class Promise11RestartTest {
    public static void main(String[] args) {
        thePlaceIsMinusOneAgain();
        theStateIsIdle();
        misuse();
        Due.end();
    }

    private static StandIns standIn() {
        StandIns x = new StandIns();
        x.make(0, 0);
        return x;
    }

    private static void inOrder(StandIns x, long due) {
        Due.due(1, x.check(0, 4, 2));
        Due.due(due, x.call(0, 0, 0, 0));
    }

    private static void thePlaceIsMinusOneAgain() {
        StandIns x = standIn();
        Due.due(-1, x.restart());
        x.call(0, 0, 0, 0);
        x.call(0, 0, 0, 0);
        x.call(0, 0, 0, 0);
        inOrder(x, StandIns.PASSED);
        inOrder(x, StandIns.BROKEN);
        Due.due(1, x.restart());
        Due.due(-1, x.count(8));
        Due.due(1, x.noted(0, 5));
        Due.due(1, x.found(1));
        inOrder(x, StandIns.PASSED);
        Due.due(0, x.found(2));
        Due.due(1, x.restart());
        Due.due(-1, x.restart());
    }

    private static void theStateIsIdle() {
        StandIns x = standIn();
        x.call(0, 0, 0, 0);
        Due.due(-1, x.restart());
        Due.due(0, x.count(5));
        x.call(0, 0, 0, 0);
        x.when();
        x.answer(0, 1);
        Due.due(-1, x.restart());
        Due.due(0, x.count(5));
        x.answer(0, 1);
        Due.due(-1, x.restart());
        Due.due(1, x.count(6));
        Due.due(0, x.count(9));
    }

    private static void misuse() {
        StandIns x = standIn();
        x.call(0, 0, 0, 0);
        x.call(0, 0, 0, 0);
        inOrder(x, StandIns.PASSED);
        x.matcher(0, 0);
        Due.due(StandIns.MISPLACED, x.restart());
        Due.due(1, x.count(8));
        x.check(0, 0, 0);
        Due.due(StandIns.UNFINISHED, x.restart());
        x.answer(0, 1);
        x.told(0);
        x.matcher(0, 0);
        Due.due(StandIns.UNFINISHED, x.restart());
        x.call(0, 0, 0, 0);
        x.when();
        Due.due(StandIns.UNFINISHED, x.restart());
        Due.due(1, x.count(8));
        Due.due(4, x.count(9));
        Due.due(1, x.restart());
    }
}
