/**
 * The edges in "Terms" on MISUSE: for each STEP in each situation which kind it is, or that it is none; and
 * "then that is the answer, the STACK is empty, the STATE IDLE, ANSWERS that were prepared are no more, and
 * nothing else happens".
 */
public final class EdgesOfMisuseTest {
    /** METHODS 0 to 3 have 0, 1, 2 and 2 PARAMETERS; the last does not GIVE. */
    private static final String SHAPES = "define 0 1 1 true; define 0 2 2 true; define 0 3 2 false; ";
    private static final String TWO = SHAPES + "make 0 0; make 0 1; ";

    private static final String[] STEPS = {
        "make 0 0", "matcher 0 0", "matcher 4 0", "matcher 5 0", "matcher 6 0", "matcher 7 0",
        "call 0 0 5 6", "call 0 1 5 6", "call 0 2 5 6", "call 0 3 5 6",
        "call 1 0 5 6", "call 1 1 5 6", "call 1 2 5 6", "call 1 3 5 6",
        "when", "answer 0 1", "answer 1 0", "told 0", "told 1", "check 0 0 0", "check 1 4 1", "noMore 0", "restart"};

    public static void main(String[] args) {
        idle();
        called();
        told();
        toldWithMatchers();
        toldWithAnswersThatWillNotDo();
        checking();
        checkingWithMatchers();
        telling();
        defineIsMisplaced();
        anAnswerThatWillNotDoForATelling();
        anyNumberOfMatchersForACall();
        aTellingIsNoMoreOnlyWithoutAnswers();
        eachMisuseIsCounted();
        Due.end();
    }

    /**
     * Of each STEP, in the order above: U UNFINISHED, M MISPLACED, W WRONG, or . for none of them. Behind a
     * MISUSE the object is as behind the run that is left, but for the number of MISUSES.
     */
    private static void row(String before, String left, String kinds) {
        String due = kinds.replace(" ", "");
        Due.due(STEPS.length, due.length(), before);
        for (int i = 0; i < STEPS.length; i++) {
            int misuse = "UMW".indexOf(due.charAt(i));
            if (misuse < 0) {
                isNoMisuse(before, STEPS[i]);
            } else {
                new Run(before, STEPS[i] + " = " + new String[] {"UNFINISHED", "MISPLACED", "WRONG"}[misuse]);
                leaves(before, left, STEPS[i]);
            }
        }
    }

    private static void isNoMisuse(String before, String step) {
        long misuses = new Run(before, "count 9").last();
        Due.due(misuses, new Run(before, step, "count 9").last(), before, step);
        long error = step.startsWith("call") ? StandIns.ERROR : 0;
        long got = new Run(before, step).last() - error;
        boolean done = got > StandIns.REFUSED || got < StandIns.WRONG || step.equals("restart");
        Due.due(1, done ? 1 : 0, before, step);
    }

    private static void leaves(String before, String left, String step) {
        long misuses = new Run(before, "count 9").last();
        new Run(before, step, "count 4 = 0; count 5 = 0; count 6 = 0; count 9 = " + (misuses + 1));
        for (String next : new String[] {"restart", "call 0 1 5 0", "answer 0 8; told 0; call 0 1 5 0; call 0 1 5 0",
            "check 0 0 1; call 0 1 5 0", "matcher 3 2; call 1 1 5 0; when; answer 0 4; call 1 1 3 0", "told 0", "when", "matcher 6 0"}) {
            long[] due = Run.look(left, next);
            long[] seen = Run.look(before, step, next);
            int count = 9;
            due[count] = seen[count];
            Run.sameLook(due, seen, before + step + "; " + next + ": ");
        }
    }

    /** MISPLACED from the first MATCHER on the STACK; WRONG as said at when() and told(), and with too few. */
    private static void idle() {
        row(TWO, TWO, ". .WWW. .... .... W .. WW .. . .");
        row(TWO + "answer 0 7; ", TWO, ". .WWW. .... .... W .. .. .. . .");
        row(TWO + "matcher 1 5; ", TWO, "M .WW.. W.WW W.WW M MM MM MM M M");
        row(TWO + "answer 0 7; matcher 1 5; ", TWO, "M .WW.. W.WW W.WW M MM MM MM M M");
        row(TWO + "2 * matcher 1 5; ", TWO, "M ..... WW.. WW.. M MM MM MM M M");
        row(TWO + "3 * matcher 1 5; ", TWO, "M ..... WWWW WWWW M MM MM MM M M");
        row(TWO + "5 * matcher 1 5; ", TWO, "M ..... WWWW WWWW M MM MM MM M M");
        String noted = TWO + "call 0 1 5 0; call 1 1 5 0; check 0 4 1; matcher 7 0; call 0 1 0 0; ";
        row(noted, noted, ". .WWW. .... .... W .. WW .. . .");
        row(noted + "answer 1 3; matcher 0 0; ", noted, "M .WW.. W.WW W.WW M MM MM MM M M");
    }

    /** WRONG "if the STATE is not CALLED", and no MISUSE if it is. */
    private static void called() {
        String called = TWO + "call 0 1 5 0; ";
        String left = called + "restart; ";
        row(called, left, ". .WWW. .... .... . .. WW .. . .");
        row(TWO + "answer 0 7; call 0 1 5 0; ", left, ". .WWW. .... .... . .. .. .. . .");
        row(TWO + "call 0 1 5 0; matcher 0 0; ", left, "M .WW.. W.WW W.WW M MM MM MM M M");
    }

    /** "UNFINISHED: the STATE is TOLD ..., and the STEP is neither matcher() nor a CALL of that STAND-IN". */
    private static void told() {
        row(TWO + "answer 0 7; told 0; ", TWO, "U .WWW. ...W UUUU U UU UU UU U U");
        row(TWO + "answer 0 7; told 1; ", TWO, "U .WWW. UUUU ...W U UU UU UU U U");
        row(TWO + "3 * answer 1 7; told 1; ", TWO, "U .WWW. UUUU .... U UU UU UU U U");
        String noted = TWO + "call 0 1 5 0; call 1 1 5 0; ";
        row(noted + "answer 0 7; told 0; ", noted + "restart; ", "U .WWW. ...W UUUU U UU UU UU U U");
    }

    /** With MATCHERS on the STACK besides, UNFINISHED is named first. */
    private static void toldWithMatchers() {
        row(TWO + "answer 0 7; told 0; matcher 1 5; ", TWO, "U .WW.. W.WW UUUU U UU UU UU U U");
        row(TWO + "answer 0 7; told 0; 2 * matcher 1 5; ", TWO, "U ..... WW.W UUUU U UU UU UU U U");
        row(TWO + "answer 1 7; told 0; 2 * matcher 1 5; ", TWO, "U ..... WW.. UUUU U UU UU UU U U");
        row(TWO + "answer 1 7; told 1; 3 * matcher 1 5; ", TWO, "U ..... UUUU WWWW U UU UU UU U U");
    }

    /** "a CALL with STATE TOLD for which a prepared ANSWER WILL NOT DO": one among three is enough. */
    private static void toldWithAnswersThatWillNotDo() {
        String[] all = {"answer 0 7; ", "answer 1 7; ", "answer 2 0; ", "answer 2 1; ", "answer 3 0; "};
        String[] due = {"...W", "....", "W..W", "WW.W", "...W"};
        for (int i = 0; i < all.length; i++) {
            for (int at = 0; at < 3; at++) {
                String answers = "answer 1 9; ".repeat(at) + all[i] + "answer 1 9; ".repeat(2 - at);
                row(TWO + answers + "told 0; ", TWO, "U .WWW. " + due[i] + " UUUU U UU UU UU U U");
            }
        }
        // Of four each one is looked at, the first and the last too.
        for (int at = 0; at < 4; at++) {
            String answers = "answer 1 9; ".repeat(at) + "answer 2 1; " + "answer 1 9; ".repeat(3 - at);
            new Run(TWO, answers, "told 0 = 4; call 0 1 5 6 = WRONG; count 2 = 0; count 6 = 0; count 9 = 1");
            new Run(TWO, answers, "told 0 = 4; call 0 2 5 6 = 0; count 2 = 1; count 6 = 0; count 9 = 0");
        }
    }

    /** "or CHECKING": in every MODE. */
    private static void checking() {
        for (int mode = 0; mode <= 4; mode++) {
            row(TWO + "check 0 " + mode + " 1; ", TWO, "U .WWW. .... UUUU U UU UU UU U U");
            row(TWO + "answer 0 7; check 1 " + mode + " 40; ", TWO, "U .WWW. UUUU .... U UU UU UU U U");
        }
        String noted = TWO + "call 0 1 5 0; ";
        row(noted + "check 0 0 1; ", noted + "restart; ", "U .WWW. .... UUUU U UU UU UU U U");
    }

    private static void checkingWithMatchers() {
        row(TWO + "check 0 0 0; matcher 7 0; ", TWO, "U .WW.. W.WW UUUU U UU UU UU U U");
        row(TWO + "check 1 0 0; 2 * matcher 7 0; ", TWO, "U ..... UUUU WW.. U UU UU UU U U");
        row(TWO + "check 1 0 0; 4 * matcher 7 0; ", TWO, "U ..... UUUU WWWW U UU UU UU U U");
    }

    /** "or it is TELLING, with a TELLING that has no ANSWERS, and the STEP is not answer()": with one, it is none. */
    private static void telling() {
        String open = TWO + "call 0 1 5 0; when; ";
        row(open, open + "restart; ", "U UUUUU UUUU UUUU U .. UU UU U U");
        row(TWO + "answer 0 7; call 0 1 5 0; when; ", open + "restart; ", "U UUUUU UUUU UUUU U .. UU UU U U");
        String told = TWO + "call 0 1 5 0; when; answer 0 3; ";
        row(told, told + "restart; ", ". .WWW. .... .... W .. WW .. . .");
        row(TWO + "answer 0 7; call 0 1 5 0; when; answer 0 3; ", told + "restart; ", ". .WWW. .... .... W .. .. .. . .");
        row(told + "answer 0 4; answer 0 5; ", told + "answer 0 4; answer 0 5; restart; ", ". .WWW. .... .... W .. WW .. . .");
    }

    /** define() can only be a MISUSE without STAND-INS, so with MATCHERS on the STACK alone. */
    private static void defineIsMisplaced() {
        for (int many = 1; many <= 6; many++) {
            new Run("answer 0 7", many + " * matcher 0 0", "define 0 0 2 true = MISPLACED",
                    "count 4 = 0; count 5 = 0; count 6 = 0; count 9 = 1; make 0 1; call 0 0 5 1 = 0");
            new Run(many + " * matcher 0 0; make 0 0 = MISPLACED; count 0 = 0; count 4 = 0; count 9 = 1; make 0 0 = 0");
        }
        new Run("answer 0 7; define 0 0 2 true = 1; count 6 = 1; count 9 = 0");
    }

    /** "An ANSWER WILL NOT DO for a METHOD if it is ECHO v and v is not less than its number of PARAMETERS, or ..." */
    private static void anAnswerThatWillNotDoForATelling() {
        for (int many = 0; many <= 2; many++) {
            for (boolean gives : new boolean[] {true, false}) {
                String shape = "define 2 3 " + many + " " + gives + "; make 2 0; ";
                willDo(gives, shape, "answer 0 5");
                willDo(true, shape, "answer 1 5");
                willDo(gives && many > 0, shape, "answer 2 0");
                willDo(gives && many > 1, shape, "answer 2 1");
                willDo(gives, shape, "answer 3 5");
            }
        }
    }

    private static void willDo(boolean does, String shape, String answer) {
        String telling = shape + "call 0 3 1 2; when = 0; ";
        String told = shape + answer + " = 1; told 0 = 1; ";
        if (does) {
            new Run(telling, answer + " = 1; telling 0 2 = 1; telling 0 4 = 1; count 5 = 4; count 9 = 0");
            new Run(told, "call 0 3 1 2 = 0; telling 0 2 = 1; telling 0 4 = 1; count 6 = 0; count 9 = 0");
        } else {
            new Run(telling, answer + " = WRONG; telling 0 2 = 0; telling 0 4 = 0; count 5 = 0; count 9 = 1");
            new Run(telling, "answer 1 7 = 1", answer + " = WRONG; telling 0 2 = 1; telling 0 4 = 1; count 5 = 0; count 9 = 1",
                    "call 0 3 1 2 = THROWN+7; call 0 3 1 2 = THROWN+7");
            new Run(told, "call 0 3 1 2 = WRONG; telling 0 2 = REFUSED; count 2 = 0; count 5 = 0; count 6 = 0; count 9 = 1; "
                    + "told 0 = WRONG");
        }
    }

    /** "a CALL with MATCHERS on the STACK, but not as many as PARAMETERS": too few and too many, in each STATE. */
    private static void anyNumberOfMatchersForACall() {
        for (int parameters = 0; parameters <= 2; parameters++) {
            for (int many = 0; many <= 6; many++) {
                boolean right = many == 0 || many == parameters;
                String matchers = many + " * matcher 0 0";
                String shape = "define 1 2 " + parameters + " true; make 1 0; ";
                String left = "count 4 = 0; count 9 = " + (right ? 0 : 1);
                new Run(shape, matchers, "call 0 2 0 0 = " + (right ? "0" : "WRONG"), left, "count 1 = " + (right ? 1 : 0));
                new Run(shape, "check 0 0 0", matchers, "call 0 2 0 0 = " + (right ? "PASSED" : "WRONG"), left,
                        "found 0 = " + (right ? "1" : "REFUSED"));
                new Run(shape, "answer 0 5; told 0", matchers, "call 0 2 0 0 = " + (right ? "0" : "WRONG"), left,
                        "count 6 = 0; count 2 = " + (right ? 1 : 0));
            }
        }
    }

    /** "(By any MISUSE with STATE TELLING a TELLING that has no ANSWERS is no more.)" */
    private static void aTellingIsNoMoreOnlyWithoutAnswers() {
        for (String step : STEPS) {
            boolean answers = step.startsWith("answer");
            new Run(TWO, "call 0 1 5 0; when = 0; telling 0 4 = 1", step, "telling 0 4 = " + (answers ? 1 : 0));
            new Run(TWO, "call 0 1 5 0; when = 0; answer 0 9 = 1", step, "telling 0 4 = 1; telling 0 2 = " + (answers ? 2 : 1));
        }
        new Run(TWO, "call 0 1 5 0; when = 0; answer 2 1 = WRONG; telling 0 4 = 0; telling 0 2 = 0");
        new Run(TWO, "call 0 1 5 0; when = 0; answer 2 0 = 1; answer 2 1 = WRONG; telling 0 4 = 1; telling 0 2 = 1; call 0 1 5 0 = 5");
        // A MISUSE in another STATE, later on, leaves all of them as they are; one that is no more ANSWERS nothing.
        new Run(TWO, "call 0 1 5 0; when; answer 0 9; call 0 1 6 0; when; restart = UNFINISHED; when = WRONG",
                "telling 0 4 = 1; telling 1 4 = 0; call 0 1 5 0 = 9; call 0 1 6 0 = 0; telling 1 3 = 0; count 2 = 2");
        // It stands below an older one, which ANSWERS as before.
        new Run(TWO, "matcher 0 0; call 0 1 0 0; when; answer 0 9; call 0 1 5 0 = 9; when = 1; noMore 0 = UNFINISHED; call 0 1 5 0 = 9; "
                + "noted 0 6 = 0");
    }

    /** count(9): each MISUSE is one more, and what is REFUSED or FULL is none. */
    private static void eachMisuseIsCounted() {
        new Run(TWO, "when = WRONG; count 9 = 1; told 0 = WRONG; count 9 = 2; matcher 4 0 = WRONG; count 9 = 3",
                "check 0 0 0; when = UNFINISHED; count 9 = 4; matcher 0 0; when = MISPLACED; count 9 = 5",
                "matcher 0 0; call 0 0 0 0 = WRONG; count 9 = 6; check 0 0 0; call 1 0 0 0 = UNFINISHED; count 9 = 7",
                "make 3 0 = REFUSED; define 0 0 0 true = FULL; call 2 0 0 0 = REFUSED; count 9 = 7");
    }
}
