/** Promise 5: call, and how a CALL is ANSWERED. */
public final class Promise05CallTest {
    private static final int MIN = Integer.MIN_VALUE, MAX = Integer.MAX_VALUE;

    public static void main(String[] args) {
        byKind();
        realResultsWrap();
        byTellings();
        theTellingMadeLastAnswers();
        eachKindOfAnswer();
        matchersAreOfOneStandInAndMethod();
        aToldCall();
        refused();
        fullOfNotes();
        fullOfTellings();
        unfinished();
        wrongNumberOfMatchers();
        answersThatWillNotDo();
        Due.end();
    }

    /** METHODS 0 to 3 have 0, 1, 2 and 2 PARAMETERS; the last does not GIVE. */
    private static StandIns standIns(int... kinds) {
        StandIns x = new StandIns();
        x.define(0, 1, 1, true);
        x.define(0, 2, 2, true);
        x.define(0, 3, 2, false);
        for (int kind : kinds) {
            x.make(0, kind);
        }
        return x;
    }

    private static long error(int code) {
        return StandIns.ERROR + code;
    }

    private static void byKind() {
        StandIns x = standIns(0, 1, 2);
        for (int m = 0; m < 4; m++) {
            Due.due(0, x.call(0, m, 9, 2));
            Due.due(StandIns.UNTOLD, x.call(2, m, 9, 2));
        }
        Due.due(0, x.call(1, 0, 9, 2));
        Due.due(7 + 27, x.call(1, 1, 9, 2));
        Due.due(14 + 27 - 2, x.call(1, 2, 9, 2));
        Due.due(0, x.call(1, 3, 9, 2));
        Due.due(1, x.count(5));
        Due.due(12, x.count(1));
    }

    private static void realResultsWrap() {
        StandIns x = standIns(1);
        Due.due(14 + 3 * MAX - MIN, x.call(0, 2, MAX, MIN));
        Due.due(14 + 3 * MIN, x.call(0, 2, MIN, 0));
        Due.due(14 - MAX, x.call(0, 2, 0, MAX));
        Due.due(-7, x.call(0, 2, -7, 0));
    }

    private static void byTellings() {
        StandIns x = standIns(2);
        Due.due(StandIns.UNTOLD, x.call(0, 2, 3, 4));
        Due.due(0, x.when());
        Due.due(1, x.answer(0, 7));
        Due.due(2, x.answer(0, -8));
        Due.due(3, x.answer(1, 0));
        Due.due(7, x.call(0, 2, 3, 4));
        Due.due(StandIns.UNTOLD, x.call(0, 2, 4, 3));
        Due.due(StandIns.UNTOLD, x.call(0, 2, 3, 5));
        Due.due(-8, x.call(0, 2, 3, 4));
        Due.due(StandIns.THROWN, x.call(0, 2, 3, 4));
        Due.due(StandIns.THROWN, x.call(0, 2, 3, 4));
        Due.due(4, x.telling(0, 3));
    }

    private static void theTellingMadeLastAnswers() {
        StandIns x = standIns(0);
        x.matcher(0, 0);
        Due.due(0, x.call(0, 1, 0, 0));
        Due.due(0, x.when());
        Due.due(1, x.answer(0, 1));
        Due.due(1, x.call(0, 1, 5, 0));
        Due.due(1, x.when());
        Due.due(1, x.answer(0, 2));
        Due.due(2, x.call(0, 1, 5, 0));
        Due.due(1, x.call(0, 1, 6, 0));
        x.matcher(3, 3);
        Due.due(1, x.call(0, 1, 0, 0));
        Due.due(2, x.when());
        Due.due(1, x.answer(0, 3));
        Due.due(3, x.call(0, 1, 5, 0));
        Due.due(1, x.call(0, 1, 3, 0));
        Due.due(3, x.call(0, 1, 4, 0));
        Due.due(3, x.when());
        Due.due(StandIns.UNFINISHED, x.restart());
        Due.due(3, x.call(0, 1, 4, 0));
        Due.due(2, x.noted(x.count(1) - 1, 6));
    }

    private static void eachKindOfAnswer() {
        StandIns x = standIns(0);
        x.answer(0, MIN);
        x.answer(2, 0);
        x.answer(2, 1);
        x.answer(3, 12345);
        Due.due(4, x.told(0));
        x.matcher(0, 0);
        x.matcher(0, 0);
        Due.due(0, x.call(0, 2, 0, 0));
        Due.due(MIN, x.call(0, 2, 10, 20));
        Due.due(10, x.call(0, 2, 10, 20));
        Due.due(-20, x.call(0, 2, 10, -20));
        Due.due(14 + 30 - 20, x.call(0, 2, 10, 20));
        Due.due(14 + 3 - 2, x.call(0, 2, 1, 2));
        x.answer(1, 999);
        x.answer(1, 5);
        Due.due(2, x.told(0));
        Due.due(0, x.call(0, 3, 1, 1));
        Due.due(StandIns.THROWN + 999, x.call(0, 3, 1, 1));
        Due.due(StandIns.THROWN + 5, x.call(0, 3, 1, 1));
    }

    private static void matchersAreOfOneStandInAndMethod() {
        StandIns x = standIns(0, 0);
        x.answer(0, 9);
        Due.due(1, x.told(1));
        Due.due(0, x.call(1, 0, 6, 6));
        Due.due(0, x.call(0, 0, 0, 0));
        Due.due(0, x.call(1, 1, 0, 0));
        Due.due(9, x.call(1, 0, 5, 5));
    }

    private static void aToldCall() {
        StandIns x = standIns(1);
        x.answer(0, 9);
        x.told(0);
        Due.due(0, x.call(0, 1, 5, 77));
        Due.due(0, x.count(1));
        Due.due(0, x.count(5));
        Due.due(0, x.count(6));
        Due.due(1, x.count(2));
        Due.due(9, x.call(0, 1, 5, 0));
        Due.due(0, x.noted(0, 0));
    }

    private static void refused() {
        StandIns x = standIns(0, 0);
        x.answer(0, 1);
        x.told(1);
        x.matcher(0, 0);
        for (int bad : new int[] {-1, 2, 6, MIN, MAX}) {
            Due.due(error(-1), x.call(bad, 0, 0, 0));
        }
        for (int bad : new int[] {-1, 4, MIN, MAX}) {
            Due.due(error(-1), x.call(0, bad, 0, 0));
        }
        Due.due(2, x.count(5));
        Due.due(1, x.count(4));
        Due.due(1, x.count(6));
        Due.due(0, x.count(9));
    }

    private static void fullOfNotes() {
        StandIns x = standIns(0, 0);
        for (int i = 0; i < 40; i++) {
            Due.due(0, x.call(i % 2, 1, i, 0));
        }
        Due.due(error(-2), x.call(0, 1, 40, 0));
        Due.due(error(-1), x.call(2, 1, 40, 0));
        x.matcher(0, 0);
        x.matcher(0, 0);
        Due.due(error(-2), x.call(0, 1, 40, 0));
        Due.due(2, x.count(4));
        Due.due(StandIns.MISPLACED, x.answer(0, 1));
        Due.due(1, x.check(0, 1, 1));
        Due.due(StandIns.PASSED, x.call(0, 1, 38, 0));
        Due.due(1, x.answer(0, 1));
        Due.due(1, x.told(0));
        Due.due(0, x.call(0, 1, 40, 0));
        Due.due(error(-2), x.call(0, 1, 40, 0));
        Due.due(1, x.count(2));
        Due.due(40, x.count(1));
        roomBehindWhen();
    }

    private static void roomBehindWhen() {
        StandIns x = standIns(0);
        for (int i = 0; i < 40; i++) {
            Due.due(0, x.call(0, 0, 0, 0));
        }
        Due.due(0, x.when());
        Due.due(1, x.answer(0, 4));
        Due.due(4, x.call(0, 0, 0, 0));
        Due.due(40, x.noted(39, 0));
        Due.due(error(-2), x.call(0, 0, 0, 0));
        Due.due(1, x.count(5));
        Due.due(1, x.when());
        Due.due(39, x.count(1));
        Due.due(error(-3), x.call(0, 0, 0, 0));
    }

    private static void fullOfTellings() {
        StandIns x = standIns(0, 0);
        for (int i = 0; i < 16; i++) {
            Due.due(1, x.answer(0, i));
            Due.due(1, x.told(0));
            Due.due(0, x.call(0, 1, i, 0));
        }
        Due.due(1, x.answer(0, 5));
        Due.due(1, x.told(0));
        Due.due(1, x.matcher(0, 0));
        Due.due(error(-2), x.call(0, 1, 0, 0));
        Due.due(error(-2), x.call(0, 2, 0, 0));
        Due.due(1, x.count(4));
        Due.due(2, x.count(5));
        Due.due(1, x.count(6));
        Due.due(0, x.count(9));
        Due.due(error(-3), x.call(1, 1, 0, 0));
        Due.due(15, x.call(0, 1, 15, 0));
    }

    private static void unfinished() {
        StandIns x = standIns(0, 0);
        x.answer(0, 1);
        Due.due(1, x.told(0));
        x.matcher(0, 0);
        Due.due(error(-3), x.call(1, 0, 0, 0));
        Due.due(0, x.count(4));
        Due.due(0, x.count(5));
        Due.due(0, x.count(6));
        Due.due(1, x.check(1, 0, 0));
        Due.due(error(-3), x.call(0, 0, 0, 0));
        Due.due(StandIns.REFUSED, x.found(0));
        Due.due(0, x.call(0, 0, 0, 0));
        Due.due(0, x.when());
        Due.due(error(-3), x.call(0, 0, 0, 0));
        Due.due(0, x.telling(0, 4));
        Due.due(0, x.count(1));
        Due.due(3, x.count(9));
    }

    private static void wrongNumberOfMatchers() {
        int[] parameters = {0, 1, 2, 2};
        for (int m = 0; m < 4; m++) {
            for (int many = 1; many <= 6; many++) {
                StandIns x = standIns(0);
                for (int i = 0; i < many; i++) {
                    x.matcher(0, 0);
                }
                boolean right = many == parameters[m];
                Due.due(right ? 0 : error(-5), x.call(0, m, 0, 0));
                Due.due(right ? 1 : 0, x.count(1));
                Due.due(right ? 1 : 0, x.count(5));
                Due.due(right ? 0 : 1, x.count(9));
                Due.due(0, x.count(4));
            }
        }
        StandIns x = standIns(0);
        x.answer(0, 1);
        x.check(0, 0, 0);
        x.matcher(0, 0);
        Due.due(error(-5), x.call(0, 2, 0, 0));
        Due.due(0, x.count(5));
        Due.due(0, x.count(6));
        Due.due(StandIns.REFUSED, x.found(0));
    }

    private static void answersThatWillNotDo() {
        wrongTold(2, 0, 0);
        wrongTold(2, 1, 0);
        wrongTold(2, 1, 1);
        wrongTold(0, 5, 3);
        wrongTold(2, 0, 3);
        wrongTold(3, 0, 3);
        StandIns x = standIns(0);
        x.answer(1, 4);
        x.answer(0, 4);
        Due.due(2, x.told(0));
        Due.due(error(-5), x.call(0, 3, 0, 0));
        x.answer(2, 1);
        Due.due(1, x.told(0));
        Due.due(0, x.call(0, 2, 0, 0));
    }

    /** Wherever it stands among others that do. */
    private static void wrongTold(int kind, int v, int m) {
        for (int at = 0; at < 4; at++) {
            StandIns x = standIns(0);
            for (int i = 0; i < 4; i++) {
                Due.due(i + 1, i == at ? x.answer(kind, v) : x.answer(1, 0));
            }
            Due.due(4, x.told(0));
            Due.due(error(-5), x.call(0, m, 0, 0));
            Due.due(0, x.count(2));
            Due.due(0, x.count(5));
            Due.due(0, x.count(6));
            Due.due(1, x.count(9));
        }
    }
}
