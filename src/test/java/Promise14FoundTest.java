/** Promise 14: found. */
public final class Promise14FoundTest {
    public static void main(String[] args) {
        ofTheLatestCheckDone();
        laterStepsLeaveIt();
        others();
        Due.end();
    }

    private static StandIns standIns() {
        StandIns x = new StandIns();
        x.define(0, 1, 1, true);
        x.make(0, 0);
        x.make(0, 0);
        return x;
    }

    private static void row(StandIns x, int... dues) {
        for (int what = 0; what < dues.length; what++) {
            Due.due(dues[what], x.found(what));
        }
        Due.due(StandIns.REFUSED, x.found(dues.length));
    }

    private static void ofTheLatestCheckDone() {
        StandIns x = standIns();
        x.call(0, 1, 5, 0);
        x.when();
        x.answer(0, 1);
        x.call(0, 1, 5, 0);
        x.call(1, 1, 5, 0);
        x.call(0, 1, 6, 0);
        x.call(0, 1, 5, 0);
        x.check(0, 1, 1);
        Due.due(StandIns.REFUSED, x.found(0));
        x.call(0, 1, 5, 0);
        row(x, 1, 2, 1, 4);
        x.check(0, 0, 4);
        row(x, 1, 2, 1, 4);
        x.matcher(0, 0);
        x.call(0, 1, 0, 0);
        row(x, 0, 3, 1, 3, 4);
        x.check(0, 2, 0);
        x.call(0, 1, 99, 0);
        row(x, 1, 0);
    }

    private static void laterStepsLeaveIt() {
        StandIns x = standIns();
        x.call(0, 1, 5, 0);
        x.check(0, 0, 1);
        x.call(0, 1, 5, 0);
        x.call(0, 1, 5, 0);
        x.when();
        Due.due(StandIns.UNFINISHED, x.restart());
        x.check(0, 0, 9);
        Due.due(StandIns.UNFINISHED, x.restart());
        x.check(0, 0, 9);
        x.matcher(0, 0);
        x.matcher(0, 0);
        Due.due(StandIns.ERROR + StandIns.WRONG, x.call(0, 1, 5, 0));
        row(x, 1, 1, 0);
    }

    private static void others() {
        StandIns x = standIns();
        for (int what : new int[] {-1, 0, 1, 2, Integer.MIN_VALUE, Integer.MAX_VALUE}) {
            Due.due(StandIns.REFUSED, x.found(what));
        }
        for (int i = 0; i < 40; i++) {
            x.call(0, 1, 5, 0);
        }
        x.check(0, 0, 40);
        x.call(0, 1, 5, 0);
        for (int k = 0; k < 40; k++) {
            Due.due(k, x.found(2 + k));
        }
        for (int what : new int[] {-1, 42, 43, Integer.MIN_VALUE, Integer.MAX_VALUE}) {
            Due.due(StandIns.REFUSED, x.found(what));
        }
    }
}
