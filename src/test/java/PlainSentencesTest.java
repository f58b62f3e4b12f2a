/** The sentences of the document that name no boundary, from its first line on, each in an ordinary run. */
public final class PlainSentencesTest {
    /** METHODS 0 to 3 have 0, 1, 2 and 1 PARAMETERS; the last does not GIVE. */
    private static final String SHAPES = "define 0 1 1 true = 1; define 0 2 2 true = 1; define 0 3 1 false = 1; ";
    private static final String TWO = SHAPES + "make 0 0 = 0; make 0 1 = 1; ";

    public static void main(String[] args) {
        whatItIs();
        typesAndKinds();
        matchersLookAtAnInt();
        states();
        stepsAndQuestions();
        misuseComesBeforeTheDeed();
        misplaced();
        willNotDo();
        matchersOfACall();
        toldCheckingOrNoted();
        answered();
        aCheckFindsByNumbers();
        seenAndCaught();
        answersOfACall();
        steps();
        notedTellsAllOfACall();
        tellingTellsAllOfATelling();
        foundTellsAllOfTheLatestCheck();
        counts();
        Due.end();
    }

    /**
     * "they note each call, answer as they were told for calls that match, or as their kind does, and say
     * afterwards whether calls came, how often and in which order; whoever leaves a telling or a check
     * unfinished hears of it with the next step".
     */
    private static void whatItIs() {
        new Run(TWO, "call 1 1 2 0 = 13; when = 0; answer 0 50 = 1; call 1 1 2 0 = 50; call 1 1 3 0 = 16; count 1 = 2",
                "check 1 1 1 = 1; call 1 1 2 0 = PASSED; check 1 1 1; call 1 1 4 0 = BROKEN",
                "check 1 4 1; call 1 1 3 0 = PASSED; check 1 4 1; call 1 1 2 0 = BROKEN",
                "check 1 0 1; restart = UNFINISHED; call 1 1 2 0 = 50; when = 1; make 0 0 = UNFINISHED");
    }

    /** "each has a TYPE and a KIND: 0 QUIET, 1 REAL, 2 STRICT"; "METHOD m, called with a and b". */
    private static void typesAndKinds() {
        Run run = new Run("define 0 2 2 true = 1; define 1 2 1 true = 1; define 2 2 2 false = 1");
        for (int i = 0; i < 6; i++) {
            run.go("make " + (5 - i) / 2 + " " + i % 3 + " = " + i);
        }
        run.go("call 0 2 9 4 = 0; call 1 2 9 4 = 0; call 2 2 9 4 = UNTOLD");
        run.go("call 3 2 9 4 = 0; call 4 2 9 4 = 37; call 5 2 9 4 = UNTOLD");
        new Run("define 1 2 1 true; make 1 1; call 0 2 9 4 = 41; call 0 3 9 4 = 21");
    }

    /** "MATCHERS look at an int x"; "and it CATCHES (see there)". */
    private static void matchersLookAtAnInt() {
        String[] matchers = {"matcher 0 0; ", "matcher 1 6; ", "matcher 2 6; ", "matcher 3 6; ",
            "matcher 3 4; matcher 2 7; matcher 4 0; ", "matcher 2 5; matcher 3 6; matcher 5 0; ",
            "matcher 1 6; matcher 6 0; ", "matcher 7 0; "};
        String[] ofFourToEight = {"11111", "00100", "11000", "00011", "01100", "10011", "11011", "11111"};
        for (int kind = 0; kind < matchers.length; kind++) {
            Run run = new Run(TWO, "answer 0 99; told 0; ", matchers[kind], "call 0 1 0 0 = 0");
            for (int x = 4; x <= 8; x++) {
                run.go("call 0 1 " + x + " 0 = " + (ofFourToEight[kind].charAt(x - 4) == '1' ? 99 : 0));
            }
            run.go("check 0 1 0; " + matchers[kind] + "call 0 1 0 0 = PASSED; count 7 = " + (kind == 7 ? 5 : 0));
        }
    }

    /**
     * "THE STATE is 0 IDLE (at first)", "2 TOLD (a STAND-IN and ANSWERS; the next CALL of that says for what)",
     * "3 CHECKING (a STAND-IN and a MODE; likewise)", "4 TELLING (a TELLING; ANSWERS come to it)".
     */
    private static void states() {
        new Run("count 5 = 0");
        new Run(TWO, "answer 0 5; told 1 = 1; count 5 = 2; count 6 = 1; call 1 1 8 0 = 0; count 5 = 0; count 6 = 0",
                "telling 0 0 = 1; telling 0 1 = 1; call 1 1 8 0 = 5; count 5 = 1");
        new Run(TWO, "call 1 1 8 0; check 1 2 0 = 1; count 5 = 3; call 1 1 8 0 = BROKEN; count 5 = 0; count 1 = 1");
        new Run(TWO, "call 1 1 8 0; when; count 5 = 4; answer 0 5 = 1; answer 0 6 = 2; count 5 = 4; count 6 = 0",
                "telling 0 2 = 2");
    }

    /** "STEPS are the calls of this class down to restart(); the others are questions, and change nothing". */
    private static void stepsAndQuestions() {
        String called = TWO + "call 0 1 5 0; ";
        for (String step : new String[] {"make 0 0", "matcher 0 0", "call 0 1 5 0", "answer 0 1", "check 0 0 1",
            "noMore 0", "restart"}) {
            new Run(called, step, "count 9 = 0").go(step.startsWith("call") ? "when = 0" : "when; count 5 = 0");
        }
        for (String question : new String[] {"noted 0 0", "telling 0 0", "found 0", "caught 0", "count 5"}) {
            new Run(called, question, "when = 0; count 5 = 4", question, "answer 0 7 = 1", question, "answer 0 8 = 2");
            new Run(called, "check 0 0 1", question, "matcher 7 0", question, "call 0 1 0 0 = PASSED; count 9 = 0");
        }
    }

    /** "Else, and before it is done, MISUSE is looked at": a CHECK that would PASS is not done then. */
    private static void misuseComesBeforeTheDeed() {
        new Run(TWO, "call 0 1 5 0; check 0 1 1; matcher 0 0; matcher 0 0; call 0 1 5 0 = WRONG; found 0 = REFUSED",
                "noMore 0 = 0; matcher 0 0; make 0 0 = MISPLACED; count 0 = 2; check 0 4 1; call 0 1 5 0 = PASSED",
                "check 0 0 1; restart = UNFINISHED; count 8 = 0");
    }

    /** "MISPLACED: there are MATCHERS on the STACK, and the STEP is neither matcher() nor a CALL". */
    private static void misplaced() {
        new Run(SHAPES, "matcher 0 0; define 0 0 1 true = MISPLACED; make 0 1 = 0; call 0 0 9 0 = 0; noted 0 3 = 0");
        for (String step : new String[] {"make 0 0", "when", "answer 0 1", "told 0", "check 0 0 1", "noMore 0", "restart"}) {
            new Run(TWO, "answer 0 1; call 0 1 5 0; matcher 0 0 = 1", step + " = MISPLACED; count 4 = 0; count 9 = 1");
        }
        new Run(TWO, "matcher 0 0 = 1; matcher 0 0 = 2; call 0 2 5 6 = 0; count 9 = 0");
    }

    /**
     * "An ANSWER WILL NOT DO for a METHOD if it is ECHO v and v is not less than its number of PARAMETERS, or
     * it is not THROW and the METHOD does not GIVE"; "or as said at answer(), when() and told()".
     */
    private static void willNotDo() {
        new Run(TWO, "call 0 3 5 0; when; answer 1 7 = 1; answer 0 7 = WRONG; call 0 3 5 0 = THROWN + 7");
        new Run(TWO, "call 0 3 5 0; when; answer 2 0 = WRONG; telling 0 4 = 0");
        new Run(TWO, "call 0 3 5 0; when; answer 3 0 = WRONG; when = WRONG; told 0 = WRONG; count 9 = 3");
        new Run(TWO, "call 0 1 5 0; when; answer 2 0 = 1; answer 2 1 = WRONG; call 0 1 6 0 = 0; call 0 1 5 0 = 5");
    }

    /**
     * "A CALL of METHOD m of a STAND-IN, with a and b"; "MATCHERS of a CALL match another CALL if that has the
     * same STAND-IN and METHOD, and each of its PARAMETERS is matched by the one for it".
     */
    private static void matchersOfACall() {
        new Run(TWO, "define 0 0 0 true = FULL; make 0 0 = 2; answer 0 9; told 0; matcher 1 3; matcher 1 4; call 0 2 0 0 = 0",
                "call 0 2 3 4 = 9; call 2 2 3 4 = 0; call 0 1 3 4 = 0; call 0 2 3 5 = 0; call 0 2 2 4 = 0; call 0 2 4 3 = 0");
    }

    /**
     * "TOLD: there is a TELLING for this STAND-IN, METHOD and MATCHERS, with the ANSWERS that were prepared,
     * which are prepared no more: 0"; "CHECKING: the CHECK is done: PASSED or BROKEN"; "Else it is noted, with
     * the next NUMBER (0 first), its MATCHERS are kept, and it is ANSWERED; the STATE is CALLED".
     */
    private static void toldCheckingOrNoted() {
        new Run(TWO, "answer 0 5; answer 0 6; told 1; call 1 2 1 2 = 0; count 1 = 0; count 2 = 1; telling 0 0 = 1",
                "telling 0 1 = 2; telling 0 2 = 2; count 6 = 0; call 1 2 1 2 = 5; noted 0 0 = 0; count 5 = 1",
                "check 1 0 1; call 1 2 1 2 = PASSED; check 1 0 2; call 1 2 1 2 = BROKEN; count 1 = 1",
                "matcher 0 0; matcher 3 7; call 1 2 1 2 = 6; noted 1 0 = 1; count 5 = 1; when = 1; answer 0 8 = 1",
                "call 1 2 -9 8 = 8; call 1 2 1 7 = 10; call 1 2 1 2 = 6");
    }

    /** "ANSWERED: by the TELLING made last of those"; "An ANSWER: 0 GIVE v: v (0 if it does not GIVE)". */
    private static void answered() {
        new Run(TWO, "answer 0 5; told 0; matcher 0 0; call 0 1 0 0; answer 1 6; told 0; call 0 1 2 0",
                "call 0 1 1 0 = 5; call 0 1 2 0 = THROWN + 6; noted 0 6 = 0; noted 1 6 = 1");
        new Run(TWO, "answer 2 1; answer 3 0; answer 0 -8; told 1; matcher 0 0; matcher 0 0; call 1 2 0 0 = 0",
                "call 1 2 30 4 = 4; call 1 2 30 4 = 100; call 1 2 30 4 = -8; call 1 2 30 4 = -8");
        new Run(TWO, "answer 0 5; told 1; call 1 3 2 0 = WRONG; call 1 3 2 0 = 0");
    }

    /** "A CHECK: FOUND are the noted CALLS that its MATCHERS match, by NUMBERS". */
    private static void aCheckFindsByNumbers() {
        new Run(TWO, "call 0 1 7 0; call 0 1 8 0; when; answer 0 1; call 1 1 7 0; call 0 1 7 0; call 0 1 9 0; call 0 1 6 0",
                "check 0 0 3; matcher 3 6; call 0 1 0 0 = PASSED; found 1 = 3; found 2 = 0; found 3 = 3; found 4 = 4",
                "found 5 = REFUSED");
    }

    /** "If it PASSES those FOUND are SEEN"; "each PARAMETER whose MATCHER is a CATCH is CAUGHT". */
    private static void seenAndCaught() {
        new Run(TWO, "call 0 2 7 70; call 0 2 8 80; call 0 1 9 0; check 0 0 1; matcher 7 0; matcher 7 0; call 0 2 0 0 = BROKEN",
                "noted 0 5 = 0; noted 1 5 = 0; count 7 = 0; check 0 0 2; matcher 7 0; matcher 7 0; call 0 2 0 0 = PASSED",
                "noted 0 5 = 1; noted 1 5 = 1; noted 2 5 = 0; noMore 0 = 2",
                "count 7 = 4; caught 0 = 80; caught 1 = 8; caught 2 = 70; caught 3 = 7");
    }

    /**
     * "What a CALL answers besides ints: THROWN + v; a CALL that nobody told of; a CHECK; ERROR + a refusal or
     * MISUSE (-1 .. -5)"; "Refusals; what a STEP answers by MISUSE"; "By MISUSE ERROR + that"; "ERROR + REFUSED
     * if there is no such STAND-IN".
     */
    private static void answersOfACall() {
        StandIns x = new StandIns();
        Due.due((1L << 44) - 1, x.call(0, 0, 0, 0));
        Due.due(0, x.make(0, 2));
        Due.due(1L << 41, x.call(0, 0, 0, 0));
        Due.due(0, x.when());
        Due.due((1L << 44) - 3, x.call(0, 0, 0, 0));
        Due.due(1, x.matcher(0, 0));
        Due.due((1L << 44) - 5, x.call(0, 0, 0, 0));
        Due.due(1, x.answer(1, 12));
        Due.due(1, x.told(0));
        Due.due(0, x.call(0, 0, 0, 0));
        Due.due((1L << 40) + 12, x.call(0, 0, 0, 0));
        Due.due(1, x.check(0, 0, 1));
        Due.due(1L << 42, x.call(0, 0, 0, 0));
        Due.due(1, x.check(0, 0, 0));
        Due.due(1L << 43, x.call(0, 0, 0, 0));
        for (int i = 1; i < 40; i++) {
            Due.due((1L << 40) + 12, x.call(0, 0, 0, 0));
        }
        Due.due((1L << 44) - 2, x.call(0, 0, 0, 0));
    }

    /**
     * "METHOD m of TYPE t has so many PARAMETERS, and GIVES or not: 1"; "A new STAND-IN: its number"; "A MATCHER
     * comes to the STACK (what it takes goes): how many are there"; "A CALL: its answer, as said above"; "there
     * is a TELLING for its STAND-IN, METHOD and MATCHERS, without ANSWERS yet; the STATE is TELLING"; "and the
     * STATE stays: how many it has; else it comes to those that are prepared"; "the next CALL of this STAND-IN
     * says for what the prepared ANSWERS are"; "the next CALL of this STAND-IN is a CHECK: 1".
     */
    private static void steps() {
        new Run("define 1 0 1 true = 1; make 1 1 = 0; make 0 0 = 1",
                "matcher 1 3 = 1; matcher 1 5 = 2; matcher 0 0 = 3; matcher 4 0 = 2; matcher 5 0 = 1; call 0 0 4 0 = 12",
                "when = 0; count 5 = 4; telling 0 0 = 0; telling 0 1 = 0; telling 0 2 = 0; answer 0 20 = 1; count 5 = 4",
                "answer 0 21 = 2; call 0 0 3 0 = 20; call 0 0 5 0 = 21; answer 0 30 = 1; count 5 = 0; answer 0 31 = 2",
                "told 1 = 2; count 5 = 2; call 1 2 0 0 = 0; call 1 2 0 0 = 30; check 1 1 1 = 1; count 5 = 3",
                "call 1 2 0 0 = PASSED; noMore 0 = 1; noMore 1 = -6; restart = -1; count 9 = 0");
    }

    /** "0: its NUMBER; 1: the STAND-IN; 2: the METHOD; 3: a; 4: b; 5: 1 if it is SEEN, else 0". */
    private static void notedTellsAllOfACall() {
        new Run(TWO, "call 0 1 9 9; when; answer 0 1; call 1 2 -7 6; noted 0 0 = 1; noted 0 1 = 1; noted 0 2 = 2",
                "noted 0 3 = -7; noted 0 4 = 6; noted 0 5 = 0; noted 0 6 = -1",
                "check 1 3 0; call 1 2 -7 6 = PASSED; noted 0 5 = 1",
                "call 0 1 9 9 = 1; noted 1 0 = 2; noted 1 1 = 0; noted 1 2 = 1; noted 1 3 = 9; noted 1 4 = 0; noted 1 6 = 0");
    }

    /** "0: the STAND-IN; 1: the METHOD; 2: how many ANSWERS; 3: how often it ANSWERED". */
    private static void tellingTellsAllOfATelling() {
        new Run(TWO, "call 1 3 5 0; when; answer 1 4; answer 1 5; answer 1 6; call 1 3 5 0; call 1 3 5 0",
                "telling 0 0 = 1; telling 0 1 = 3; telling 0 2 = 3; telling 0 3 = 2; telling 0 4 = 1");
    }

    /** "0: 1 if it PASSED, else 0; 1: how many were FOUND". */
    private static void foundTellsAllOfTheLatestCheck() {
        new Run(TWO, "call 0 0 0 0; call 1 0 0 0; call 0 0 0 0; check 0 0 2; call 0 0 0 0 = PASSED; found 0 = 1; found 1 = 2",
                "found 2 = 0; found 3 = 2; check 0 2 1; found 0 = 1; call 0 0 0 0 = BROKEN; found 0 = 0; found 1 = 2",
                "check 1 0 0; call 1 1 0 0 = PASSED; found 0 = 1; found 1 = 0; found 2 = REFUSED");
    }

    /**
     * "What 0: STAND-INS; 1: CALLS noted"; "4: MATCHERS on the STACK; 5: the STATE; 6: ANSWERS prepared";
     * "8: the PLACE; 9: MISUSES so far".
     */
    private static void counts() {
        new Run(TWO, "call 0 1 1 0; call 0 1 2 0; call 0 1 3 0; check 0 4 3; matcher 7 0; call 0 1 0 0 = PASSED; when = WRONG",
                "answer 0 4; told 0; call 0 1 4 0; answer 0 5; answer 1 6; answer 2 0; call 0 2 5 5; when = 1; answer 0 5",
                "check 0 0 0; matcher 1 1; matcher 1 2; matcher 1 3; matcher 1 4",
                "count 0 = 2; count 1 = 3; count 2 = 2; count 3 = 2; count 4 = 4; count 5 = 3; count 6 = 3; count 7 = 3",
                "count 8 = 2; count 9 = 1");
    }
}
