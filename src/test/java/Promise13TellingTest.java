/** Promise 13: telling. */
public final class Promise13TellingTest {
    public static void main(String[] args) {
        rows();
        noMoreByMisuse();
        withAnswersItStays();
        others();
        Due.end();
    }

    private static StandIns standIns() {
        StandIns x = new StandIns();
        x.define(0, 1, 1, true);
        for (int i = 0; i < 6; i++) {
            x.make(0, 0);
        }
        return x;
    }

    private static void row(StandIns x, int t, int... dues) {
        for (int what = 0; what < dues.length; what++) {
            Due.due(dues[what], x.telling(t, what));
        }
    }

    private static void rows() {
        StandIns x = standIns();
        x.call(5, 1, 4, 0);
        x.when();
        row(x, 0, 5, 1, 0, 0, 1);
        x.answer(0, 1);
        row(x, 0, 5, 1, 1, 0, 1);
        x.answer(0, 2);
        row(x, 0, 5, 1, 2, 0, 1);
        x.answer(0, 1);
        x.answer(1, 1);
        row(x, 0, 5, 1, 4, 0, 1);
        x.answer(0, 3);
        x.restart();
        x.answer(0, 3);
        x.told(2);
        x.call(2, 3, 0, 0);
        row(x, 1, 2, 3, 1, 0, 1);
        for (int i = 1; i <= 6; i++) {
            x.call(5, 1, 4, 0);
            row(x, 0, 5, 1, 4, i, 1);
        }
        row(x, 1, 2, 3, 1, 0, 1);
        x.check(5, 0, 6);
        x.call(5, 1, 4, 0);
        row(x, 0, 5, 1, 4, 6, 1);
    }

    private static void noMoreByMisuse() {
        StandIns x = standIns();
        x.call(3, 2, 0, 0);
        x.when();
        Due.due(StandIns.UNFINISHED, x.noMore(0));
        row(x, 0, 3, 2, 0, 0, 0);
        Due.due(1, x.count(2));
        x.call(3, 2, 0, 0);
        Due.due(-1, x.noted(0, 6));
        Due.due(1, x.when());
        Due.due(StandIns.WRONG, x.answer(2, 0));
        row(x, 1, 3, 2, 0, 0, 0);
    }

    private static void withAnswersItStays() {
        StandIns x = standIns();
        x.call(3, 2, 0, 0);
        x.when();
        x.answer(0, 9);
        Due.due(StandIns.WRONG, x.when());
        row(x, 0, 3, 2, 1, 0, 1);
        Due.due(9, x.call(3, 2, 0, 0));
        row(x, 0, 3, 2, 1, 1, 1);
    }

    private static void others() {
        StandIns x = standIns();
        Due.due(StandIns.REFUSED, x.telling(0, 0));
        x.call(0, 0, 0, 0);
        x.when();
        for (int bad : new int[] {-1, 5, Integer.MIN_VALUE, Integer.MAX_VALUE}) {
            Due.due(StandIns.REFUSED, x.telling(0, bad));
        }
        for (int bad : new int[] {-1, 1, 16, Integer.MIN_VALUE, Integer.MAX_VALUE}) {
            Due.due(StandIns.REFUSED, x.telling(bad, 0));
        }
    }
}
