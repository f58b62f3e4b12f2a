/** Promise 1: a new object has no STAND-INS and nothing noted. */
public final class Promise01NewObjectTest {
    public static void main(String[] args) {
        nothingIsThere();
        methodsAtFirst();
        objectsAreApart();
        Due.end();
    }

    private static void nothingIsThere() {
        StandIns x = new StandIns();
        for (int what = 0; what <= 7; what++) {
            Due.due(0, x.count(what));
        }
        Due.due(-1, x.count(8));
        Due.due(0, x.count(9));
        Due.due(StandIns.REFUSED, x.noted(0, 0));
        Due.due(StandIns.REFUSED, x.telling(0, 0));
        Due.due(StandIns.REFUSED, x.found(0));
        Due.due(StandIns.REFUSED, x.found(1));
        Due.due(StandIns.REFUSED, x.caught(0));
        Due.due(StandIns.ERROR + StandIns.REFUSED, x.call(0, 0, 0, 0));
        Due.due(StandIns.REFUSED, x.told(0));
        Due.due(StandIns.REFUSED, x.check(0, 0, 0));
        Due.due(StandIns.REFUSED, x.noMore(0));
        Due.due(-1, x.restart());
    }

    /** At first a METHOD has no PARAMETERS, and it GIVES. */
    private static void methodsAtFirst() {
        for (int type = 0; type < 3; type++) {
            StandIns x = new StandIns();
            Due.due(0, x.make(type, 1));
            for (int m = 0; m < 4; m++) {
                Due.due(7 * m, x.call(0, m, 100, 10));
                Due.due(0, x.noted(m, 3));
                Due.due(0, x.noted(m, 4));
            }
        }
    }

    private static void objectsAreApart() {
        StandIns one = new StandIns();
        StandIns other = new StandIns();
        Due.due(1, one.define(0, 0, 2, true));
        Due.due(0, one.make(0, 0));
        Due.due(1, one.matcher(0, 0));
        Due.due(0, other.count(0));
        Due.due(0, other.count(4));
        Due.due(0, other.make(0, 1));
        Due.due(0, other.call(0, 0, 5, 6));
        Due.due(0, one.count(1));
    }
}
