/**
 * The edges in "Terms" on THE STATE: which it is behind each STEP that was done, from each STATE. "If nothing
 * else is said the STATE is IDLE behind a STEP that was done; matcher() leaves TOLD and CHECKING as they are."
 */
public final class EdgesOfStatesTest {
    private static final String ONE = "define 0 1 1 true; make 0 0; ";

    private static final String[] STEPS = {"make 0 0", "matcher 0 0", "matcher 6 0", "call 0 0 0 0", "call 0 1 5 0", "when",
        "answer 0 1", "told 0", "check 0 0 0", "noMore 0", "restart"};

    public static void main(String[] args) {
        idle();
        called();
        told();
        checking();
        telling();
        idleAtFirst();
        onlyTheLatestStepCounts();
        toldAndCheckingAreOfOneStandIn();
        Due.end();
    }

    /** Of each STEP, in the order above, the STATE behind it; - if it is not done. */
    private static void row(String before, String states) {
        String due = states.replace(" ", "");
        Due.due(STEPS.length, due.length(), before);
        for (int i = 0; i < STEPS.length; i++) {
            if (due.charAt(i) != '-') {
                new Run(before, STEPS[i], "count 5 = " + due.charAt(i) + "; count 9 = 0");
            }
        }
    }

    private static void idleAtFirst() {
        new Run("count 5 = 0");
        new Run("define 0 0 1 true; count 5 = 0");
        new Run("when = WRONG; count 5 = 0");
    }

    private static void idle() {
        row(ONE, "0 0- 11 - 0- 3 0 0");
        row(ONE + "answer 0 1; ", "0 0- 11 - 02 3 0 0");
        row(ONE + "matcher 0 0; ", "- 00 -1 - -- - - -");
    }

    private static void called() {
        row(ONE + "call 0 0 0 0; ", "0 0- 11 4 0- 3 0 0");
        row(ONE + "answer 0 1; call 0 0 0 0; ", "0 0- 11 4 02 3 0 0");
        row(ONE + "matcher 0 0; call 0 1 0 0; ", "0 0- 11 4 0- 3 0 0");
        row(ONE + "call 0 0 0 0; matcher 0 0; ", "- 00 -1 - -- - - -");
    }

    private static void told() {
        row(ONE + "answer 0 1; told 0; ", "- 2- 00 - -- - - -");
        row(ONE + "answer 0 1; told 0; matcher 0 0; ", "- 22 -0 - -- - - -");
    }

    private static void checking() {
        for (int mode = 0; mode <= 4; mode++) {
            row(ONE + "check 0 " + mode + " 1; ", "- 3- 00 - -- - - -");
            row(ONE + "check 0 " + mode + " 1; matcher 0 0; ", "- 33 -0 - -- - - -");
        }
    }

    /** answer() leaves TELLING; every other STEP that may come ends it. */
    private static void telling() {
        row(ONE + "call 0 0 0 0; when; ", "- -- -- - 4- - - -");
        row(ONE + "call 0 0 0 0; when; answer 0 1; ", "0 0- 11 - 4- 3 0 0");
        row(ONE + "answer 0 1; call 0 0 0 0; when; answer 0 1; ", "0 0- 11 - 42 3 0 0");
        row(ONE + "call 0 0 0 0; when; 4 * answer 0 1; ", "0 0- 11 - -- 3 0 0");
        // Behind it an ANSWER is prepared, and comes to the TELLING no more.
        new Run(ONE, "call 0 0 0 0; when; answer 0 1 = 1; answer 0 2 = 2; restart; answer 0 3 = 1; telling 0 2 = 2; count 6 = 1");
        new Run(ONE, "call 0 0 0 0; when; answer 0 1 = 1; matcher 0 0; call 0 1 0 0; answer 0 3 = 1; telling 0 2 = 1; count 6 = 1");
    }

    /** "1 CALLED (the latest step was a CALL that was noted)": not one before that, and no TOLD or CHECKING one. */
    private static void onlyTheLatestStepCounts() {
        new Run(ONE, "call 0 0 0 0; count 5 = 1; call 0 0 0 0; count 5 = 1; when = 0; count 1 = 1; noted 0 0 = 0");
        new Run(ONE, "call 0 0 0 0; when = 0; answer 0 1; when = WRONG; count 1 = 0");
        new Run(ONE, "call 0 0 0 0; restart; when = WRONG; count 1 = 1");
        new Run(ONE, "call 0 0 0 0; check 0 0 1; call 0 0 0 0 = PASSED; when = WRONG; count 1 = 1");
        new Run(ONE, "answer 0 1; call 0 0 0 0; told 0; call 0 0 0 0 = 0; when = WRONG; count 1 = 1");
        new Run(ONE, "call 0 0 0 0; matcher 0 0; call 0 0 0 0 = WRONG; when = WRONG; count 1 = 1");
        // Questions, and what is REFUSED or FULL, leave it the latest STEP that was done.
        new Run(ONE, "call 0 0 0 0; count 5 = 1; noted 0 0 = 0; make 9 9 = REFUSED; define 0 0 0 true = FULL; call 1 0 0 0 = REFUSED; "
                + "when = 0");
    }

    /** "a STAND-IN ...; the next CALL of that says for what", "likewise": the one that was named last. */
    private static void toldAndCheckingAreOfOneStandIn() {
        for (int named = 0; named < 6; named++) {
            for (int called = 0; called < 6; called++) {
                boolean same = named == called;
                new Run("6 * make 0 0; answer 0 5; told " + named, "call " + called + " 0 0 0 = " + (same ? "0" : "UNFINISHED"),
                        "telling 0 0 = " + (same ? named : -1));
                new Run("6 * make 0 0; call " + called + " 0 0 0; check " + named + " 0 1",
                        "call " + called + " 0 0 0 = " + (same ? "PASSED" : "UNFINISHED"));
            }
        }
    }
}
