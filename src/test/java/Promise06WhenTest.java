/** Promise 6: when. */
public final class Promise06WhenTest {
    public static void main(String[] args) {
        takesBackTheCall();
        keepsTheMatchersOfTheCall();
        whatWasUsedStaysUsed();
        fullBehindSixteen();
        wrongIfNotCalled();
        misuse();
        refusalsAndQuestionsLeaveItCalled();
        Due.end();
    }

    private static StandIns standIns() {
        StandIns x = new StandIns();
        x.define(0, 1, 1, true);
        x.define(0, 2, 2, true);
        x.make(0, 0);
        x.make(0, 1);
        return x;
    }

    private static void takesBackTheCall() {
        StandIns x = standIns();
        Due.due(0, x.call(0, 1, 4, 0));
        Due.due(19, x.call(1, 1, 4, 0));
        Due.due(0, x.when());
        Due.due(4, x.count(5));
        Due.due(1, x.count(1));
        Due.due(0, x.noted(0, 0));
        Due.due(StandIns.REFUSED, x.noted(1, 0));
        Due.due(1, x.telling(0, 0));
        Due.due(1, x.telling(0, 1));
        Due.due(0, x.telling(0, 2));
        Due.due(0, x.telling(0, 3));
        Due.due(1, x.telling(0, 4));
        Due.due(1, x.answer(0, 8));
        Due.due(8, x.call(1, 1, 4, 0));
        Due.due(2, x.noted(1, 0));
        Due.due(1, x.when());
        Due.due(1, x.answer(0, 9));
        Due.due(0, x.call(0, 1, 4, 0));
        Due.due(3, x.noted(1, 0));
    }

    private static void keepsTheMatchersOfTheCall() {
        StandIns x = standIns();
        x.matcher(2, 0);
        x.matcher(1, 3);
        Due.due(0, x.call(0, 2, 50, 60));
        Due.due(50, x.noted(0, 3));
        Due.due(60, x.noted(0, 4));
        Due.due(0, x.when());
        Due.due(1, x.answer(0, 8));
        Due.due(8, x.call(0, 2, -1, 3));
        Due.due(0, x.call(0, 2, 50, 60));
        Due.due(0, x.call(0, 2, -1, 4));
    }

    private static void whatWasUsedStaysUsed() {
        StandIns x = standIns();
        x.matcher(0, 0);
        x.call(0, 1, 0, 0);
        Due.due(0, x.when());
        x.answer(0, 1);
        x.answer(0, 2);
        x.answer(0, 3);
        Due.due(1, x.call(0, 1, 7, 0));
        Due.due(1, x.when());
        Due.due(1, x.telling(0, 3));
        Due.due(1, x.answer(0, 70));
        Due.due(2, x.call(0, 1, 8, 0));
        Due.due(70, x.call(0, 1, 7, 0));
        Due.due(3, x.call(0, 1, 8, 0));
        Due.due(3, x.telling(0, 3));
    }

    private static void fullBehindSixteen() {
        StandIns x = standIns();
        for (int i = 0; i < 16; i++) {
            Due.due(0, x.call(0, 1, i, 0));
            Due.due(i, x.when());
            if (i % 2 == 0) {
                Due.due(1, x.answer(0, i));
            } else {
                Due.due(StandIns.UNFINISHED, x.restart());
            }
        }
        Due.due(0, x.call(0, 1, 99, 0));
        Due.due(StandIns.FULL, x.when());
        Due.due(1, x.count(1));
        Due.due(1, x.count(5));
        Due.due(1, x.matcher(0, 0));
        Due.due(StandIns.FULL, x.when());
        Due.due(1, x.count(4));
        Due.due(16, x.count(2));
        Due.due(8, x.count(9));
    }

    private static void wrongIfNotCalled() {
        StandIns x = standIns();
        Due.due(1, x.answer(0, 4));
        Due.due(StandIns.WRONG, x.when());
        Due.due(0, x.count(6));
        Due.due(0, x.call(0, 0, 0, 0));
        Due.due(1, x.answer(0, 4));
        Due.due(StandIns.WRONG, x.when());
        Due.due(1, x.count(1));
        x.call(0, 0, 0, 0);
        Due.due(0, x.when());
        Due.due(1, x.answer(0, 4));
        Due.due(StandIns.WRONG, x.when());
        Due.due(1, x.telling(0, 4));
        x.call(0, 0, 0, 0);
        Due.due(-1, x.restart());
        Due.due(StandIns.WRONG, x.when());
        x.call(0, 0, 0, 0);
        Due.due(0, x.noMore(0));
        Due.due(StandIns.WRONG, x.when());
        x.check(0, 1, 0);
        Due.due(StandIns.PASSED, x.call(0, 0, 0, 0));
        Due.due(StandIns.WRONG, x.when());
        Due.due(1, x.answer(0, 4));
        Due.due(1, x.told(0));
        Due.due(0, x.call(0, 0, 0, 0));
        Due.due(StandIns.WRONG, x.when());
        Due.due(7, x.count(9));
    }

    private static void misuse() {
        StandIns x = standIns();
        x.call(0, 0, 0, 0);
        x.matcher(0, 0);
        Due.due(StandIns.MISPLACED, x.when());
        x.call(0, 0, 0, 0);
        Due.due(0, x.when());
        Due.due(StandIns.UNFINISHED, x.when());
        Due.due(0, x.telling(0, 4));
        x.check(0, 0, 0);
        x.matcher(0, 0);
        Due.due(StandIns.UNFINISHED, x.when());
        x.answer(0, 0);
        x.told(0);
        Due.due(StandIns.UNFINISHED, x.when());
        Due.due(0, x.count(6));
        Due.due(1, x.count(2));
    }

    private static void refusalsAndQuestionsLeaveItCalled() {
        StandIns x = standIns();
        x.call(0, 1, 6, 0);
        Due.due(StandIns.REFUSED, x.make(9, 9));
        Due.due(StandIns.FULL, x.define(0, 0, 0, true));
        Due.due(StandIns.ERROR + StandIns.REFUSED, x.call(9, 0, 0, 0));
        Due.due(StandIns.REFUSED, x.answer(9, 0));
        Due.due(6, x.noted(0, 3));
        Due.due(1, x.count(5));
        Due.due(0, x.when());
        Due.due(1, x.answer(0, 4));
        Due.due(4, x.call(0, 1, 6, 0));
    }
}
