/** Promise 15: caught. */
public final class Promise15CaughtTest {
    public static void main(String[] args) {
        aBeforeB();
        onlyWhereAMatcherIsACatch();
        withinAnotherOneItCatchesNothing();
        onlyByChecks();
        onlyThoseFound();
        theLatestTwelve();
        others();
        Due.end();
    }

    private static StandIns standIns() {
        StandIns x = new StandIns();
        x.define(0, 1, 1, true);
        x.define(0, 2, 2, true);
        x.make(0, 0);
        return x;
    }

    private static void caught(StandIns x, int... latestFirst) {
        Due.due(latestFirst.length, x.count(7));
        for (int k = 0; k < latestFirst.length; k++) {
            Due.due(latestFirst[k], x.caught(k));
        }
        Due.due(StandIns.REFUSED, x.caught(latestFirst.length));
    }

    private static void check(StandIns x, int mode, int n) {
        Due.due(1, x.check(0, mode, n));
    }

    private static void aBeforeB() {
        StandIns x = standIns();
        x.call(0, 2, 1, 2);
        x.call(0, 2, 3, 4);
        check(x, 1, 0);
        x.matcher(7, 0);
        x.matcher(7, 0);
        Due.due(StandIns.PASSED, x.call(0, 2, 0, 0));
        caught(x, 4, 3, 2, 1);
        check(x, 1, 0);
        x.matcher(1, 1);
        x.matcher(7, 0);
        Due.due(StandIns.PASSED, x.call(0, 2, 0, 0));
        caught(x, 2, 4, 3, 2, 1);
    }

    private static void onlyWhereAMatcherIsACatch() {
        StandIns x = standIns();
        x.call(0, 2, 1, -1);
        check(x, 1, 0);
        x.matcher(7, 0);
        x.matcher(0, 0);
        x.call(0, 2, 0, 0);
        caught(x, 1);
        check(x, 1, 0);
        x.matcher(0, 0);
        x.matcher(7, 0);
        x.call(0, 2, 0, 0);
        caught(x, -1, 1);
        check(x, 1, 0);
        x.call(0, 2, 1, -1);
        caught(x, -1, 1);
    }

    private static void withinAnotherOneItCatchesNothing() {
        for (int kind = 4; kind <= 6; kind++) {
            StandIns x = standIns();
            x.call(0, 1, 1, 0);
            check(x, 1, 0);
            x.matcher(7, 0);
            x.matcher(kind == 6 ? 6 : 7, 0);
            x.matcher(kind, 0);
            Due.due(StandIns.PASSED, x.call(0, 1, 0, 0));
            Due.due(1, x.found(1));
            caught(x);
        }
    }

    private static void onlyByChecks() {
        StandIns x = standIns();
        x.matcher(7, 0);
        x.call(0, 1, 4, 0);
        x.when();
        x.answer(0, 1);
        Due.due(1, x.call(0, 1, 5, 0));
        x.matcher(7, 0);
        Due.due(1, x.call(0, 1, 6, 0));
        caught(x);
    }

    private static void onlyThoseFound() {
        StandIns x = standIns();
        for (int a = 1; a <= 4; a++) {
            x.call(0, 1, a, 0);
        }
        check(x, 4, 2);
        x.matcher(7, 0);
        Due.due(StandIns.PASSED, x.call(0, 1, 0, 0));
        caught(x, 2, 1);
        check(x, 4, 1);
        x.matcher(7, 0);
        Due.due(StandIns.PASSED, x.call(0, 1, 0, 0));
        caught(x, 3, 2, 1);
        check(x, 4, 2);
        x.matcher(7, 0);
        Due.due(StandIns.BROKEN, x.call(0, 1, 0, 0));
        caught(x, 3, 2, 1);
    }

    private static void theLatestTwelve() {
        StandIns x = standIns();
        for (int i = 0; i < 26; i++) {
            x.call(0, 1, 100 + i, 0);
            check(x, 4, 1);
            x.matcher(7, 0);
            Due.due(StandIns.PASSED, x.call(0, 1, 0, 0));
            Due.due(i + 1, x.count(7));
            for (int k = 0; k < 12; k++) {
                Due.due(k <= i ? 100 + i - k : StandIns.REFUSED, x.caught(k));
            }
            Due.due(StandIns.REFUSED, x.caught(12));
        }
    }

    private static void others() {
        StandIns x = standIns();
        for (int bad : new int[] {-1, 0, 12, Integer.MIN_VALUE, Integer.MAX_VALUE}) {
            Due.due(StandIns.REFUSED, x.caught(bad));
        }
        x.call(0, 1, 8, 0);
        check(x, 0, 1);
        x.matcher(7, 0);
        x.call(0, 1, 0, 0);
        for (int bad : new int[] {-1, 1, 12, Integer.MIN_VALUE, Integer.MAX_VALUE}) {
            Due.due(StandIns.REFUSED, x.caught(bad));
        }
        Due.due(8, x.caught(0));
    }
}
