/** Promise 9: check, and how a CHECK is done. */
public final class Promise09CheckTest {
    public static void main(String[] args) {
        byNumber();
        only();
        onlyAmongEarlierAndLaterOnes();
        inOrder();
        seenOnlyIfPassed();
        inOrderSeesThoseFoundAlone();
        caughtOnlyIfPassed();
        refused();
        misuse();
        Due.end();
    }

    /** METHODS 0 to 2 have 0, 1 and 2 PARAMETERS. */
    private static StandIns standIns() {
        StandIns x = new StandIns();
        x.define(0, 1, 1, true);
        x.define(0, 2, 2, true);
        x.make(0, 0);
        x.make(0, 2);
        return x;
    }

    private static void checked(boolean passes, StandIns x, int mode, int n, int a) {
        Due.due(1, x.check(0, mode, n));
        Due.due(3, x.count(5));
        int before = x.count(1);
        Due.due(passes ? StandIns.PASSED : StandIns.BROKEN, x.call(0, 1, a, 0));
        Due.due(0, x.count(5));
        Due.due(before, x.count(1));
        Due.due(passes ? 1 : 0, x.found(0));
    }

    private static void byNumber() {
        StandIns x = standIns();
        for (int i = 0; i < 3; i++) {
            x.call(0, 1, 5, 0);
            x.call(1, 1, 5, 0);
            x.call(0, 1, 6 + i, 0);
            x.call(0, 0, 5, 0);
        }
        for (int n = 0; n <= 5; n++) {
            checked(n == 3, x, 0, n, 5);
            checked(n <= 3, x, 1, n, 5);
            checked(n >= 3, x, 2, n, 5);
            checked(n == 0, x, 0, n, 99);
            checked(n == 0, x, 1, n, 99);
            checked(true, x, 2, n, 99);
        }
        Due.due(1, x.check(0, 0, 4));
        x.matcher(2, 7);
        Due.due(StandIns.PASSED, x.call(0, 1, 0, 0));
        Due.due(4, x.found(1));
        byNumberUpToForty();
    }

    private static void byNumberUpToForty() {
        StandIns x = standIns();
        for (int i = 0; i < 40; i++) {
            x.call(0, 1, 5, 0);
        }
        checked(true, x, 0, 40, 5);
        checked(true, x, 1, 40, 5);
        checked(false, x, 2, 39, 5);
        checked(true, x, 4, 40, 5);
        Due.due(40, x.found(1));
        Due.due(39, x.found(41));
        Due.due(39, x.count(8));
    }

    private static void only() {
        StandIns x = standIns();
        checked(false, x, 3, 0, 5);
        x.call(1, 1, 5, 0);
        checked(false, x, 3, 0, 5);
        x.call(0, 1, 5, 0);
        checked(true, x, 3, 0, 5);
        checked(true, x, 3, 40, 5);
        checked(false, x, 3, 1, 6);
        x.call(0, 1, 5, 0);
        x.when();
        x.answer(0, 1);
        checked(true, x, 3, 0, 5);
        x.call(0, 0, 0, 0);
        checked(false, x, 3, 0, 5);
        Due.due(1, x.found(1));
        x.call(0, 1, 5, 0);
        checked(false, x, 3, 0, 5);
        Due.due(2, x.found(1));
    }

    private static void onlyAmongEarlierAndLaterOnes() {
        StandIns earlier = standIns();
        earlier.call(0, 0, 0, 0);
        earlier.call(0, 1, 5, 0);
        checked(false, earlier, 3, 0, 5);
        StandIns later = standIns();
        later.call(0, 1, 5, 0);
        later.call(0, 0, 0, 0);
        checked(false, later, 3, 0, 5);
        Due.due(0, later.noMore(0));
    }

    private static void inOrder() {
        StandIns x = standIns();
        for (int a : new int[] {1, 2, 1, 3, 1, 2}) {
            x.call(0, 1, a, 0);
        }
        checked(true, x, 4, 1, 2);
        Due.due(1, x.count(8));
        Due.due(1, x.found(1));
        Due.due(1, x.found(2));
        checked(false, x, 4, 3, 1);
        Due.due(1, x.count(8));
        Due.due(2, x.found(1));
        Due.due(2, x.found(2));
        Due.due(4, x.found(3));
        checked(true, x, 4, 1, 1);
        Due.due(2, x.count(8));
        checked(false, x, 4, 3, 2);
        checked(true, x, 4, 1, 2);
        Due.due(5, x.count(8));
        checked(false, x, 4, 1, 1);
        Due.due(0, x.found(1));
        checked(true, x, 0, 3, 1);
        Due.due(5, x.count(8));
        Due.due(5, x.restart());
        checked(true, x, 4, 2, 1);
        Due.due(2, x.found(1));
        Due.due(0, x.found(2));
        Due.due(2, x.found(3));
        Due.due(StandIns.REFUSED, x.found(4));
        Due.due(2, x.count(8));
    }

    private static void seenOnlyIfPassed() {
        StandIns x = standIns();
        x.call(0, 1, 5, 0);
        x.call(0, 1, 6, 0);
        checked(false, x, 0, 2, 5);
        Due.due(0, x.noted(0, 5));
        checked(true, x, 0, 1, 5);
        Due.due(1, x.noted(0, 5));
        Due.due(0, x.noted(1, 5));
        checked(false, x, 0, 2, 5);
        Due.due(1, x.noted(0, 5));
    }

    private static void inOrderSeesThoseFoundAlone() {
        StandIns x = standIns();
        for (int i = 0; i < 4; i++) {
            x.call(0, 1, 5, 0);
        }
        checked(true, x, 4, 1, 5);
        checked(true, x, 4, 2, 5);
        for (int k = 0; k < 4; k++) {
            Due.due(k < 3 ? 1 : 0, x.noted(k, 5));
        }
    }

    private static void caughtOnlyIfPassed() {
        StandIns x = standIns();
        x.call(0, 2, 5, 6);
        x.check(0, 0, 2);
        x.matcher(7, 0);
        x.matcher(7, 0);
        Due.due(StandIns.BROKEN, x.call(0, 2, 0, 0));
        Due.due(0, x.count(7));
    }

    private static void refused() {
        StandIns x = standIns();
        x.call(0, 0, 0, 0);
        for (int bad : new int[] {-1, 2, Integer.MIN_VALUE, Integer.MAX_VALUE}) {
            Due.due(StandIns.REFUSED, x.check(bad, 0, 0));
        }
        for (int bad : new int[] {-1, 5, Integer.MIN_VALUE, Integer.MAX_VALUE}) {
            Due.due(StandIns.REFUSED, x.check(0, bad, 1));
        }
        for (int mode = 0; mode <= 4; mode++) {
            for (int bad : new int[] {-1, 41, Integer.MIN_VALUE, Integer.MAX_VALUE}) {
                Due.due(StandIns.REFUSED, x.check(0, mode, bad));
            }
        }
        Due.due(StandIns.REFUSED, x.check(0, 4, 0));
        Due.due(1, x.count(5));
        Due.due(0, x.count(9));
        Due.due(1, x.check(1, 4, 40));
        Due.due(StandIns.REFUSED, x.check(0, 4, 0));
        Due.due(3, x.count(5));
    }

    private static void misuse() {
        StandIns x = standIns();
        Due.due(1, x.check(0, 0, 0));
        Due.due(StandIns.UNFINISHED, x.check(0, 0, 0));
        x.matcher(0, 0);
        Due.due(StandIns.MISPLACED, x.check(0, 0, 0));
        Due.due(0, x.count(5));
        x.answer(0, 0);
        x.told(0);
        Due.due(StandIns.UNFINISHED, x.check(0, 0, 0));
        x.call(0, 0, 0, 0);
        x.when();
        Due.due(StandIns.UNFINISHED, x.check(0, 0, 0));
        Due.due(4, x.count(9));
        Due.due(0, x.telling(0, 4));
    }
}
