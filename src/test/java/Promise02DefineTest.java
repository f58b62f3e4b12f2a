/** Promise 2: define. */
public final class Promise02DefineTest {
    public static void main(String[] args) {
        parametersAndGiving();
        theLatestDefinitionHolds();
        outOfRange();
        fullBehindMake();
        misuse();
        Due.end();
    }

    private static void parametersAndGiving() {
        for (int t = 0; t < 3; t++) {
            for (int m = 0; m < 4; m++) {
                for (int many = 0; many <= 2; many++) {
                    oneMethod(t, m, many);
                }
            }
        }
    }

    private static void oneMethod(int t, int m, int many) {
        int a = many > 0 ? 50 : 0;
        int b = many > 1 ? 4 : 0;
        StandIns x = new StandIns();
        Due.due(1, x.define(t, m, many, true));
        Due.due(0, x.make(t, 1));
        Due.due(7 * m + 3 * a - b, x.call(0, m, 50, 4));
        Due.due(a, x.noted(0, 3));
        Due.due(b, x.noted(0, 4));
        int otherMethod = (m + 1) % 4;
        Due.due(7 * otherMethod, x.call(0, otherMethod, 50, 4));
        Due.due(1, x.make((t + 1) % 3, 1));
        Due.due(7 * m, x.call(1, m, 50, 4));

        StandIns y = new StandIns();
        Due.due(1, y.define(t, m, many, false));
        Due.due(0, y.make(t, 1));
        Due.due(0, y.call(0, m, 50, 4));
        Due.due(a, y.noted(0, 3));
    }

    private static void theLatestDefinitionHolds() {
        StandIns x = new StandIns();
        Due.due(1, x.define(1, 2, 2, false));
        Due.due(1, x.define(1, 2, 1, true));
        Due.due(0, x.make(1, 1));
        Due.due(14 + 9, x.call(0, 2, 3, 8));
    }

    private static void outOfRange() {
        StandIns x = new StandIns();
        for (int bad : new int[] {-1, 3, Integer.MIN_VALUE, Integer.MAX_VALUE}) {
            Due.due(StandIns.REFUSED, x.define(bad, 0, 0, true));
            Due.due(StandIns.REFUSED, x.define(0, 0, bad, true));
        }
        for (int bad : new int[] {-1, 4, Integer.MIN_VALUE, Integer.MAX_VALUE}) {
            Due.due(StandIns.REFUSED, x.define(0, bad, 0, true));
        }
        Due.due(0, x.count(9));
        Due.due(0, x.make(0, 1));
        Due.due(0, x.call(0, 0, 5, 5));
        Due.due(StandIns.REFUSED, x.define(3, 0, 0, true));
    }

    private static void fullBehindMake() {
        StandIns x = new StandIns();
        Due.due(0, x.make(0, 1));
        Due.due(StandIns.FULL, x.define(0, 0, 1, true));
        Due.due(StandIns.FULL, x.define(2, 3, 1, true));
        Due.due(0, x.call(0, 0, 5, 0));
        Due.due(StandIns.FULL, x.define(0, 0, 1, true));
        Due.due(1, x.count(5));
        Due.due(0, x.when());
    }

    private static void misuse() {
        StandIns x = new StandIns();
        Due.due(1, x.answer(0, 1));
        Due.due(1, x.matcher(0, 0));
        Due.due(StandIns.REFUSED, x.define(0, 0, 3, true));
        Due.due(1, x.count(4));
        Due.due(StandIns.MISPLACED, x.define(0, 0, 1, true));
        Due.due(0, x.count(4));
        Due.due(0, x.count(6));
        Due.due(1, x.count(9));
        Due.due(0, x.make(0, 1));
        Due.due(0, x.call(0, 0, 9, 0));
    }
}
