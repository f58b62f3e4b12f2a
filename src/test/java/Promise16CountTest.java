/** Promise 16: count. */
public final class Promise16CountTest {
    public static void main(String[] args) {
        eachOfThem();
        tellingsThatNeverAnswered();
        allSixteenTellings();
        eachState();
        misuses();
        others();
        Due.end();
    }

    private static StandIns standIns() {
        StandIns x = new StandIns();
        x.define(0, 1, 1, true);
        x.make(0, 0);
        x.make(0, 0);
        return x;
    }

    private static void counts(StandIns x, int... dues) {
        for (int what = 0; what < dues.length; what++) {
            Due.due(dues[what], x.count(what));
        }
    }

    private static void eachOfThem() {
        StandIns x = standIns();
        counts(x, 2, 0, 0, 0, 0, 0, 0, 0, -1, 0);
        x.call(0, 1, 3, 0);
        counts(x, 2, 1, 0, 0, 0, 1, 0, 0, -1, 0);
        x.when();
        counts(x, 2, 0, 1, 0, 0, 4, 0, 0, -1, 0);
        x.answer(0, 1);
        counts(x, 2, 0, 1, 1, 0, 4, 0, 0, -1, 0);
        x.call(0, 1, 3, 0);
        counts(x, 2, 1, 1, 0, 0, 1, 0, 0, -1, 0);
        x.answer(0, 1);
        x.answer(0, 1);
        counts(x, 2, 1, 1, 0, 0, 0, 2, 0, -1, 0);
        x.told(1);
        x.matcher(0, 0);
        counts(x, 2, 1, 1, 0, 1, 2, 2, 0, -1, 0);
        x.call(1, 1, 3, 0);
        counts(x, 2, 1, 2, 1, 0, 0, 0, 0, -1, 0);
        x.check(0, 4, 1);
        x.matcher(7, 0);
        counts(x, 2, 1, 2, 1, 1, 3, 0, 0, -1, 0);
        x.call(0, 1, 0, 0);
        counts(x, 2, 1, 2, 1, 0, 0, 0, 1, 1, 0);
        x.answer(0, 1);
        x.matcher(0, 0);
        x.restart();
        counts(x, 2, 1, 2, 1, 0, 0, 0, 1, 1, 1);
        x.restart();
        counts(x, 2, 1, 2, 1, 0, 0, 0, 1, -1, 1);
    }

    private static void tellingsThatNeverAnswered() {
        StandIns x = standIns();
        for (int i = 0; i < 3; i++) {
            x.answer(0, i);
            x.told(0);
            x.call(0, 1, i, 0);
        }
        Due.due(3, x.count(3));
        x.call(0, 1, 8, 0);
        x.when();
        Due.due(3, x.count(3));
        x.restart();
        Due.due(3, x.count(3));
        Due.due(4, x.count(2));
        x.call(0, 1, 1, 0);
        Due.due(2, x.count(3));
        x.when();
        Due.due(2, x.count(3));
        x.answer(0, 1);
        Due.due(3, x.count(3));
        x.call(0, 1, 1, 0);
        Due.due(2, x.count(3));
    }

    private static void allSixteenTellings() {
        StandIns x = standIns();
        for (int i = 0; i < 16; i++) {
            x.answer(0, i);
            x.told(0);
            x.call(0, 1, i, 0);
            Due.due(i + 1, x.count(3));
        }
        for (int i = 0; i < 16; i++) {
            x.call(0, 1, i, 0);
            Due.due(15 - i, x.count(3));
        }
        Due.due(16, x.count(2));
    }

    private static void eachState() {
        StandIns x = standIns();
        Due.due(0, x.count(5));
        x.call(0, 0, 0, 0);
        Due.due(1, x.count(5));
        x.call(0, 0, 0, 0);
        Due.due(1, x.count(5));
        x.when();
        Due.due(4, x.count(5));
        x.answer(0, 1);
        Due.due(4, x.count(5));
        x.call(0, 0, 0, 0);
        Due.due(1, x.count(5));
        x.check(0, 0, 0);
        Due.due(3, x.count(5));
        x.call(0, 0, 0, 0);
        Due.due(0, x.count(5));
        x.answer(0, 1);
        x.told(0);
        Due.due(2, x.count(5));
        x.call(0, 0, 0, 0);
        Due.due(0, x.count(5));
        x.call(0, 0, 0, 0);
        x.check(0, 0, 0);
        Due.due(3, x.count(5));
        x.restart();
        Due.due(0, x.count(5));
    }

    private static void misuses() {
        StandIns x = standIns();
        int due = 0;
        for (int i = 0; i < 20; i++) {
            x.check(0, 0, 0);
            x.check(0, 0, 0);
            Due.due(++due, x.count(9));
            x.matcher(0, 0);
            x.when();
            Due.due(++due, x.count(9));
            x.when();
            Due.due(++due, x.count(9));
            x.make(-1, 0);
            x.define(0, 0, 0, true);
            Due.due(due, x.count(9));
        }
    }

    private static void others() {
        StandIns x = standIns();
        for (int bad : new int[] {-1, 10, 11, Integer.MIN_VALUE, Integer.MAX_VALUE}) {
            Due.due(StandIns.REFUSED, x.count(bad));
        }
    }
}
