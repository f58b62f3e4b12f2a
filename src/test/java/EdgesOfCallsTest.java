/** The edges in "Terms" on a CALL and how it is ANSWERED, and in Promises 5 to 8. */
public final class EdgesOfCallsTest {
    /** METHODS 0 to 3 have 0, 1, 2 and 2 PARAMETERS; the last does not GIVE. */
    private static final String SHAPES = "define 0 1 1 true; define 0 2 2 true; define 0 3 2 false; ";
    private static final String QUIET = SHAPES + "make 0 0; ";
    private static final String STRICT = SHAPES + "make 0 2; make 0 2; ";

    public static void main(String[] args) {
        thoseThatAreNoParametersAreZero();
        theStackIsEmptyThen();
        withoutMatchersTheyAreIsAAndIsB();
        theSameStandInAndMethod();
        toldAndCheckedCallsAreNotNoted();
        numbersFromZeroOn();
        theTellingMadeLast();
        theLastAnswerAgainAndAgain();
        answersInTheirOrder();
        byItsKind();
        give();
        throwing();
        echo();
        really();
        fortyCalls();
        fortyCallsLeaveRoomForTellingsAndChecks();
        aCallOfAnotherStandInIsUnfinishedNotFull();
        roomAgainBehindWhen();
        sixteenTellingsByTold();
        sixteenTellingsByWhen();
        tellingsThatAreNoMoreCount();
        checksAndCallsWithSixteenTellings();
        whatWasUsedStaysUsed();
        fourAnswersPrepared();
        fourAnswersOfATelling();
        answerRefuses();
        toldSaysHowManyThereAre();
        Due.end();
    }

    /** "with a and b (those that are no PARAMETERS are 0)". */
    private static void thoseThatAreNoParametersAreZero() {
        new Run(QUIET, "call 0 0 8 9; noted 0 3 = 0; noted 0 4 = 0; call 0 1 8 9; noted 1 3 = 8; noted 1 4 = 0; call 0 2 8 9; "
                + "noted 2 3 = 8; noted 2 4 = 9");
        new Run(QUIET, "call 0 0 MIN MAX; noted 0 3 = 0; noted 0 4 = 0; call 0 1 MIN MAX; noted 1 3 = MIN; noted 1 4 = 0",
                "call 0 2 MIN MAX; noted 2 3 = MIN; noted 2 4 = MAX; call 0 3 MAX -1; noted 3 3 = MAX; noted 3 4 = -1");
        // So they do not keep a CALL from being matched.
        new Run(QUIET, "call 0 0 8 9; when; answer 0 5; call 0 0 1 2 = 5; call 0 1 8 9; when; answer 0 6; call 0 1 8 1 = 6; "
                + "call 0 1 7 9 = 0");
        new Run(QUIET, "call 0 0 8 9; call 0 1 8 9; check 0 0 1; call 0 0 1 2 = PASSED; check 0 0 1; call 0 1 8 2 = PASSED");
    }

    /** "its MATCHERS are those on the STACK ..., which is empty then". */
    private static void theStackIsEmptyThen() {
        new Run(QUIET, "matcher 0 0; call 0 1 5 0; count 4 = 0; call 0 0 0 0 = 0; count 9 = 0");
        new Run(QUIET, "2 * matcher 0 0; call 0 2 5 0; count 4 = 0; restart = -1");
        new Run(QUIET, "check 0 0 0; matcher 0 0; call 0 1 5 0 = PASSED; count 4 = 0; restart = -1");
        new Run(QUIET, "answer 0 1; told 0; matcher 0 0; call 0 1 5 0 = 0; count 4 = 0; restart = -1");
    }

    /** "or, if there are none, IS a and IS b": not one below, nor one above, on either side. */
    private static void withoutMatchersTheyAreIsAAndIsB() {
        new Run(STRICT, "call 0 2 5 6; when; answer 0 1; call 0 2 5 6 = 1; call 0 2 4 6 = UNTOLD; call 0 2 6 6 = UNTOLD; "
                + "call 0 2 5 5 = UNTOLD; call 0 2 5 7 = UNTOLD");
        new Run(STRICT, "call 0 2 MIN MAX; when; answer 0 1; call 0 2 MIN MAX = 1; call 0 2 MAX MIN = UNTOLD; call 0 2 MIN MIN = UNTOLD; "
                + "call 0 2 MAX MAX = UNTOLD");
        new Run(STRICT, "answer 0 1; told 0; call 0 1 0 0; call 0 1 0 9 = 1; call 0 1 1 0 = UNTOLD; call 0 1 -1 0 = UNTOLD");
        new Run(STRICT, "call 0 2 5 6; check 0 0 1; call 0 2 5 6 = PASSED; check 0 0 0; call 0 2 4 6 = PASSED; check 0 0 0; "
                + "call 0 2 5 7 = PASSED");
    }

    /** "match another CALL if that has the same STAND-IN and METHOD". */
    private static void theSameStandInAndMethod() {
        for (int s = 0; s < 6; s++) {
            for (int m = 0; m < 4; m++) {
                Run run = new Run("6 * make 0 2; answer 0 5; told " + s + " = 1; call " + s + " " + m + " 0 0 = 0");
                Run check = new Run("6 * make 0 2; call " + s + " " + m + " 0 0");
                for (int i = 0; i < 24; i++) {
                    boolean same = i / 4 == s && i % 4 == m;
                    run.go("call " + i / 4 + " " + i % 4 + " 0 0 = " + (same ? "5" : "UNTOLD"));
                    check.go("check " + i / 4 + " 0 1; call " + i / 4 + " " + i % 4 + " 0 0 = " + (same ? "PASSED" : "BROKEN"));
                }
            }
        }
    }

    /** "TOLD: ... which are prepared no more: 0. CHECKING: the CHECK is done ... Else it is noted, with the next NUMBER". */
    private static void toldAndCheckedCallsAreNotNoted() {
        new Run(STRICT, "answer 0 5; told 0; call 0 1 5 0 = 0; count 1 = 0; count 2 = 1; count 5 = 0; count 6 = 0; call 0 1 5 0 = 5; "
                + "noted 0 0 = 0");
        new Run(STRICT, "check 0 0 0; call 0 1 5 0 = PASSED; count 1 = 0; count 5 = 0; call 0 1 5 0 = UNTOLD; noted 0 0 = 0; check 0 0 2; "
                + "call 0 1 5 0 = BROKEN; count 1 = 1");
        // A TOLD CALL uses nothing of the TELLINGS that match it.
        new Run(STRICT, "answer 0 5; told 0; call 0 1 5 0; answer 0 6; told 0; call 0 1 5 0 = 0; telling 0 3 = 0; telling 1 3 = 0");
        new Run(STRICT, "answer 0 5; told 0; call 0 1 5 0; check 0 0 0; call 0 1 5 0 = PASSED; telling 0 3 = 0");
    }

    /** "with the next NUMBER (0 first)"; "its NUMBER is not used again". */
    private static void numbersFromZeroOn() {
        Run run = new Run(QUIET);
        for (int i = 0; i < 40; i++) {
            run.go("call 0 0 0 0; noted " + i + " 0 = " + i);
        }
        Run back = new Run(QUIET);
        for (int i = 0; i < 16; i++) {
            back.go("call 0 1 " + i + " 0; noted 0 0 = " + i + "; when = " + i + "; answer 0 1; noted 0 0 = REFUSED");
        }
        for (int k = 0; k < 40; k++) {
            back.go("call 0 0 0 0; noted " + k + " 0 = " + (16 + k));
        }
        back.go("call 0 0 0 0 = FULL; check 0 4 40; call 0 0 0 0 = PASSED; found 2 = 16; found 41 = 55; count 8 = 55; restart = 55");
    }

    /** "by the TELLING made last of those that have ANSWERS and whose MATCHERS match it". */
    private static void theTellingMadeLast() {
        Run run = new Run(STRICT);
        for (int t = 0; t < 16; t++) {
            run.go("answer 0 " + (100 + t) + "; told 0; matcher 0 0; call 0 1 0 0; call 0 1 5 0 = " + (100 + t) + "; "
                    + "noted " + t + " 6 = " + t);
        }
        String three = "answer 0 1; told 0; matcher 0 0; call 0 1 0 0; answer 0 2; told 0; matcher 3 5; call 0 1 0 0; answer 0 3; told 0; "
                + "matcher 1 7; call 0 1 0 0; ";
        new Run(STRICT, three, "call 0 1 5 0 = 1; call 0 1 6 0 = 2; call 0 1 7 0 = 3; call 0 1 8 0 = 2; noted 0 6 = 0; noted 1 6 = 1; "
                + "noted 2 6 = 2; noted 3 6 = 1");
        // One without ANSWERS, though made last, ANSWERS nothing.
        new Run(STRICT, three, "call 0 1 7 0 = 3; when = 3; restart = UNFINISHED; call 0 1 7 0 = 3; noted 0 6 = 2; telling 3 3 = 0");
        new Run(STRICT, "call 0 1 7 0 = UNTOLD; when = 0; restart = UNFINISHED; call 0 1 7 0 = UNTOLD; noted 0 6 = -1");
    }

    /** "by its next ANSWER (the last one again and again)": with 1 to 4 of them. */
    private static void theLastAnswerAgainAndAgain() {
        for (int many = 1; many <= 4; many++) {
            StringBuilder answers = new StringBuilder();
            for (int i = 1; i <= many; i++) {
                answers.append("answer 0 ").append(10 * i).append(" = ").append(i).append("; ");
            }
            Run told = new Run(STRICT, answers.toString(), "told 0 = " + many + "; call 0 1 5 0 = 0");
            Run when = new Run(STRICT, "call 0 1 5 0; when = 0", answers.toString());
            for (int i = 1; i <= 40; i++) {
                String next = "call 0 1 5 0 = " + 10 * Math.min(i, many) + "; telling 0 3 = " + i + "; telling 0 2 = " + many;
                told.go(next);
                when.go(next);
            }
        }
    }

    /** Each TELLING goes through its own ANSWERS. */
    private static void answersInTheirOrder() {
        new Run(STRICT, "answer 0 1; answer 0 2; told 0; call 0 1 5 0; answer 0 3; answer 0 4; told 0; call 0 1 6 0",
                "call 0 1 5 0 = 1; call 0 1 6 0 = 3; call 0 1 6 0 = 4; call 0 1 5 0 = 2; call 0 1 6 0 = 4; call 0 1 5 0 = 2");
        new Run(STRICT, "answer 1 0; answer 0 -1; answer 2 0; answer 3 0; told 0; call 0 1 5 0",
                "call 0 1 5 0 = THROWN; call 0 1 5 0 = -1; call 0 1 5 0 = 5; call 0 1 5 0 = 22; call 0 1 5 0 = 22");
    }

    /** "else by its KIND: QUIET 0, REAL the REAL RESULT, STRICT the answer UNTOLD". */
    private static void byItsKind() {
        String kinds = SHAPES + "make 0 0; make 0 1; make 0 2; ";
        new Run(kinds, "call 0 2 5 1 = 0; call 1 2 5 1 = 28; call 2 2 5 1 = UNTOLD");
        new Run(kinds, "call 0 3 5 1 = 0; call 1 3 5 1 = 0; call 2 3 5 1 = UNTOLD");
        for (int s = 0; s < 3; s++) {
            new Run(kinds, "answer 0 9; told " + s + "; call " + s + " 2 5 1 = 0; call " + s + " 2 5 1 = 9; noted 0 6 = 0");
            new Run(kinds, "answer 1 9; told " + s + "; call " + s + " 3 5 1 = 0; call " + s + " 3 5 1 = THROWN+9; noted 0 6 = 0");
        }
    }

    /** "0 GIVE v: v". */
    private static void give() {
        for (String v : new String[] {"MIN", "-2", "-1", "0", "1", "1000", "MAX"}) {
            new Run(STRICT, "answer 0 " + v + " = 1; told 0; call 0 1 5 0; call 0 1 5 0 = " + v);
        }
    }

    /** "1 THROW v: THROWN + v", v 0..999. */
    private static void throwing() {
        for (String v : new String[] {"0", "1", "998", "999"}) {
            new Run(STRICT, "answer 1 " + v + " = 1; told 0; call 0 3 5 0 = 0; call 0 3 5 0 = THROWN+" + v);
        }
        new Run(STRICT, "answer 1 -1 = REFUSED; answer 1 1000 = REFUSED; count 6 = 0");
    }

    /** "2 ECHO v: its PARAMETER v". */
    private static void echo() {
        new Run(STRICT, "answer 2 0; answer 2 1; told 0; 2 * matcher 0 0; call 0 2 0 0; call 0 2 MIN MAX = MIN; call 0 2 MIN MAX = MAX; "
                + "call 0 2 -1 -2 = -2");
        new Run(STRICT, "answer 2 0; told 0; matcher 0 0; call 0 1 0 0; call 0 1 -1 7 = -1; call 0 1 MAX 7 = MAX; call 0 1 MIN 7 = MIN");
    }

    /** "3 REALLY: the REAL RESULT", of a STAND-IN of any KIND, with any v. */
    private static void really() {
        for (String v : new String[] {"MIN", "-1", "0", "2", "1000", "MAX"}) {
            for (int kind = 0; kind <= 2; kind++) {
                new Run(SHAPES, "make 0 " + kind + "; answer 3 " + v + " = 1; told 0; 2 * matcher 0 0; call 0 2 0 0; call 0 2 5 1 = 28; "
                        + "call 0 2 -5 -1 = 0");
                new Run(SHAPES, "make 0 " + kind + "; answer 3 " + v + "; told 0; call 0 0 0 0; call 0 0 5 1 = 0");
            }
        }
    }

    /** "ERROR + FULL if ... the STATE is neither TOLD nor CHECKING, and 40 CALLS are noted". */
    private static void fortyCalls() {
        new Run(STRICT, "39 * call 0 0 0 0 = UNTOLD; call 1 1 5 0 = UNTOLD; count 1 = 40; call 0 0 0 0 = FULL; call 1 1 5 0 = FULL; "
                + "count 1 = 40; count 5 = 1");
        new Run(STRICT, "40 * call 0 0 0 0; restart; call 0 0 0 0 = FULL; count 5 = 0; matcher 0 0; call 0 1 5 0 = FULL; count 4 = 1");
        // FULL goes before WRONG, and REFUSED before FULL.
        new Run(STRICT, "40 * call 0 0 0 0; matcher 0 0; call 0 0 0 0 = FULL; call 2 0 0 0 = REFUSED; call 0 4 0 0 = REFUSED; count 4 = 1; "
                + "count 9 = 0");
        new Run(STRICT, "39 * call 0 0 0 0; matcher 0 0; call 0 0 0 0 = WRONG; count 1 = 39; call 0 0 0 0 = UNTOLD; call 0 0 0 0 = FULL");
        // With STATE TELLING, whose TELLING has ANSWERS.
        new Run(STRICT, "40 * call 0 0 0 0; when; answer 0 1; call 0 0 0 0 = 1; count 1 = 40; call 0 0 0 0 = FULL");
    }

    private static void fortyCallsLeaveRoomForTellingsAndChecks() {
        new Run(STRICT, "40 * call 0 0 0 0; answer 0 1; told 0 = 1; call 0 0 0 0 = 0; count 2 = 1; count 1 = 40");
        new Run(STRICT, "40 * call 0 0 0 0; check 0 0 40 = 1; call 0 0 0 0 = PASSED; count 1 = 40");
    }

    private static void aCallOfAnotherStandInIsUnfinishedNotFull() {
        new Run(STRICT, "40 * call 0 0 0 0; check 0 0 40; call 1 0 0 0 = UNFINISHED; count 9 = 1; call 1 0 0 0 = FULL");
        new Run(STRICT, "40 * call 0 0 0 0; answer 0 1; told 1; call 0 0 0 0 = UNFINISHED; count 6 = 0; count 9 = 1");
        new Run(STRICT, tellings(16), "answer 0 1; told 0; call 1 0 0 0 = UNFINISHED; count 5 = 0; count 6 = 0; count 9 = 1");
    }

    /** "The CALL that was noted last is taken back: it is noted no more". */
    private static void roomAgainBehindWhen() {
        new Run(STRICT, "40 * call 0 0 0 0; when = 0; count 1 = 39; answer 0 1; call 0 0 0 0 = 1; noted 39 0 = 40; when = 1; answer 0 2; "
                + "call 0 0 0 0 = 2; noted 39 0 = 41; call 0 0 0 0 = FULL");
        new Run(STRICT, "call 0 0 0 0; call 1 1 5 0; when = 0; telling 0 0 = 1; telling 0 1 = 1; count 1 = 1; noted 0 1 = 0; "
                + "noted 1 0 = REFUSED");
    }

    private static String tellings(int many) {
        StringBuilder text = new StringBuilder();
        for (int i = 0; i < many; i++) {
            text.append("answer 0 ").append(i).append("; told 0 = 1; call 0 1 ").append(i).append(" 0 = 0; ");
        }
        return text.toString();
    }

    /** "ERROR + FULL if the STATE is TOLD for this STAND-IN, and 16 TELLINGS were made". */
    private static void sixteenTellingsByTold() {
        new Run(STRICT, tellings(15), "count 2 = 15; answer 0 1; told 0; call 0 0 0 0 = 0; count 2 = 16; answer 0 1; told 0 = 1; "
                + "call 0 0 0 0 = FULL; count 2 = 16; count 5 = 2; count 6 = 1");
        new Run(STRICT, tellings(15), "call 0 0 0 0; when = 15; answer 0 3; call 0 0 0 0 = 3; when = FULL; count 1 = 1; count 5 = 1");
        new Run(STRICT, tellings(16), "call 0 0 0 0; when = FULL; count 1 = 1; restart; when = FULL; count 9 = 0");
        // FULL goes before WRONG: an ANSWER that WILL NOT DO, and MATCHERS that are too many.
        new Run(STRICT, tellings(16), "answer 0 1; told 0; call 0 3 0 0 = FULL; 2 * matcher 0 0; call 0 1 0 0 = FULL; "
                + "call 0 4 0 0 = REFUSED; count 4 = 2; count 9 = 0");
    }

    /** when is "FULL if 16 TELLINGS were made"; it answers "the number of the TELLING, from 0 on". */
    private static void sixteenTellingsByWhen() {
        Run run = new Run(STRICT);
        for (int t = 0; t < 16; t++) {
            run.go("call 0 1 " + t + " 0 = UNTOLD; when = " + t + "; answer 0 " + t + " = 1; count 2 = " + (t + 1));
        }
        run.go("when = FULL; count 5 = 4; call 0 1 99 0 = UNTOLD; when = FULL; count 5 = 1; count 1 = 1; count 2 = 16");
        run.go("matcher 0 0; when = FULL; count 4 = 1; call 0 1 3 0 = 3");
        run.go("check 0 0 1; when = FULL; count 5 = 3; call 0 1 3 0 = PASSED");
        run.go("answer 0 1; told 0; when = FULL; count 5 = 2; call 0 0 0 0 = FULL; count 9 = 0");
        // The 16th is still open for ANSWERS, and by MISUSE no more, as any other.
        new Run(STRICT, tellings(15), "call 0 1 99 0; when = 15; when = FULL; count 5 = 4; answer 0 5 = 1; call 0 1 99 0 = 5");
        new Run(STRICT, tellings(15), "call 0 1 99 0; when = 15; restart = UNFINISHED; telling 15 4 = 0; call 0 1 99 0 = UNTOLD; "
                + "when = FULL");
    }

    /** "16 TELLINGS were made": those that are no more were made, too. */
    private static void tellingsThatAreNoMoreCount() {
        Run run = new Run(STRICT);
        for (int t = 0; t < 16; t++) {
            run.go("call 0 1 0 0 = UNTOLD; when = " + t + "; restart = UNFINISHED; telling " + t + " 4 = 0; count 2 = " + (t + 1));
        }
        run.go("call 0 1 0 0 = UNTOLD; when = FULL; answer 0 1; told 0; call 0 1 0 0 = FULL; count 3 = 0");
    }

    private static void checksAndCallsWithSixteenTellings() {
        new Run(STRICT, tellings(16), "call 0 1 15 0 = 15; call 0 1 16 0 = UNTOLD; check 0 0 1; call 0 1 15 0 = PASSED; check 1 0 0; "
                + "call 1 1 15 0 = PASSED; count 9 = 0");
    }

    /** "(What that CALL used of another TELLING stays used.)" */
    private static void whatWasUsedStaysUsed() {
        String told = "answer 0 1; answer 0 2; answer 0 3; told 0; matcher 0 0; call 0 1 0 0; ";
        new Run(STRICT, told, "call 0 1 7 0 = 1; when = 1; telling 0 3 = 1; answer 0 9; call 0 1 8 0 = 2; when = 2; telling 0 3 = 2; "
                + "answer 0 9; call 0 1 6 0 = 3; telling 0 3 = 3; count 3 = 2");
        new Run(STRICT, told, "call 0 1 7 0 = 1; when = 1; restart = UNFINISHED; call 0 1 7 0 = 2; telling 0 3 = 2");
    }

    /** answer is "FULL if there are 4" that are prepared. */
    private static void fourAnswersPrepared() {
        new Run(STRICT, "answer 0 1 = 1; answer 1 2 = 2; answer 2 1 = 3; answer 3 4 = 4; answer 0 5 = FULL; count 6 = 4; told 0 = 4; "
                + "answer 0 5 = FULL; count 5 = 2; count 9 = 0");
        new Run("answer 0 1 = 1; answer 0 1 = 2; answer 0 1 = 3; answer 0 1 = 4; answer 0 1 = FULL; answer 0 1 = FULL; count 6 = 4");
        // FULL goes before MISPLACED; REFUSED goes before FULL.
        new Run("4 * answer 0 1; matcher 0 0; answer 0 1 = FULL; answer 4 1 = REFUSED; count 4 = 1; count 6 = 4; count 9 = 0");
        new Run("3 * answer 0 1; matcher 0 0; answer 0 1 = MISPLACED; count 4 = 0; count 6 = 0; count 9 = 1");
    }

    /** "with STATE TELLING it comes to the TELLING": what is prepared does not count there, nor the other way round. */
    private static void fourAnswersOfATelling() {
        new Run(STRICT, "4 * answer 0 9; call 0 2 5 6; when; answer 0 1 = 1; answer 1 2 = 2; answer 2 1 = 3; answer 3 0 = 4; "
                + "answer 0 5 = FULL; telling 0 2 = 4; count 6 = 4; count 5 = 4",
                "call 0 2 5 6 = 1; call 0 2 5 6 = THROWN+2; call 0 2 5 6 = 6; call 0 2 5 6 = 23; call 0 2 5 6 = 23; told 0 = 4");
        new Run(STRICT, "call 0 2 5 6; when; 4 * answer 0 1; answer 0 1 = FULL; restart; answer 0 9 = 1; count 6 = 1; telling 0 2 = 4");
        // FULL goes before WRONG.
        new Run(STRICT, "call 0 3 5 6; when; 4 * answer 1 0; answer 0 0 = FULL; count 5 = 4; count 9 = 0");
        new Run(STRICT, "call 0 3 5 6; when; 3 * answer 1 0; answer 0 0 = WRONG; count 5 = 0; count 9 = 1; telling 0 2 = 3");
    }

    /** "REFUSED if kind is not 0..3, or for kind 1 v not 0..999, for kind 2 not 0..1", prepared or to a TELLING. */
    private static void answerRefuses() {
        for (String before : new String[] {"", "call 0 2 5 6; when"}) {
            for (String bad : new String[] {"-1 0", "4 0", "MIN 0", "MAX 0", "1 -1", "1 1000", "1 MIN", "1 MAX",
                "2 -1", "2 2", "2 MIN", "2 MAX"}) {
                new Run(STRICT, before, "answer " + bad + " = REFUSED; count 6 = 0; count 9 = 0; count 5 = " + (before.isEmpty() ? 0 : 4));
            }
            for (String good : new String[] {"0 0", "0 MIN", "0 MAX", "0 1000", "1 0", "1 999", "2 0", "2 1",
                "3 0", "3 MIN", "3 MAX", "3 -1"}) {
                new Run(STRICT, before, "answer " + good + " = 1; answer " + good + " = 2; count 9 = 0");
            }
        }
    }

    /** told answers "how many there are"; "WRONG if none are prepared (by which they are none still)". */
    private static void toldSaysHowManyThereAre() {
        new Run(STRICT, "told 0 = WRONG; count 5 = 0; count 6 = 0; count 9 = 1; call 0 0 0 0 = UNTOLD");
        for (int many = 1; many <= 4; many++) {
            new Run(STRICT, many + " * answer 0 1", "told 1 = " + many + "; count 5 = 2; count 6 = " + many + "; count 9 = 0");
        }
        new Run(STRICT, "answer 0 1; told 0 = 1; call 0 0 0 0 = 0; told 0 = WRONG");
    }
}
