/** The edges in "Terms", second paragraph, and in Promise 4: what MATCHERS match, the STACK's room, the SIZE. */
public final class EdgesOfMatchersTest {
    /** Seven CALLS whose PARAMETER goes from one end of the ints to the other; NUMBER 3 is that with 0. */
    private static final String NOTES = "define 0 0 1 true; define 0 1 2 true; make 0 0; "
            + "call 0 0 MIN 0; call 0 0 -2147483647 0; call 0 0 -1 0; call 0 0 0 0; call 0 0 1 0; call 0 0 2147483646 0; call 0 0 MAX 0; ";

    public static void main(String[] args) {
        any();
        is();
        less();
        more();
        bothAndEither();
        not();
        catchMatchesAlways();
        eachParameterByTheOneForIt();
        theStackHoldsSix();
        joiningIsNotFullAtSix();
        theTwoOnTopAndTheOneOnTop();
        tooFewOnTheStack();
        sizeEightByNot();
        sizeEightByBothAndEither();
        sizeIsFullOnlyIfThereAreEnough();
        kindsOutOfRange();
        vIsLookedAtForKindsOneToThreeAlone();
        withinAnotherOneItCatchesNothing();
        Due.end();
    }

    /** The MATCHERS make one, and that matches the CALLS with just these NUMBERS. */
    private static void matches(String matchers, int... numbers) {
        Run check = new Run(NOTES, "check 0 0 " + numbers.length + " = 1", matchers, "count 4 = 1; call 0 0 77 0 = PASSED");
        check.go("found 1 = " + numbers.length);
        for (int k = 0; k < numbers.length; k++) {
            check.go("found " + (2 + k) + " = " + numbers[k]);
        }
        Run telling = new Run("define 0 0 1 true; make 0 2; answer 0 9; told 0", matchers, "call 0 0 77 0 = 0");
        String[] values = {"MIN", "-2147483647", "-1", "0", "1", "2147483646", "MAX"};
        for (int i = 0; i < 7; i++) {
            boolean matched = false;
            for (int number : numbers) {
                matched = matched || number == i;
            }
            telling.go("call 0 0 " + values[i] + " 0 = " + (matched ? "9" : "UNTOLD"));
        }
    }

    /** "0 ANY: always". */
    private static void any() {
        matches("matcher 0 0", 0, 1, 2, 3, 4, 5, 6);
    }

    /** "1 IS v: x is v": not one below, not one above. */
    private static void is() {
        matches("matcher 1 0", 3);
        matches("matcher 1 -1", 2);
        matches("matcher 1 1", 4);
        matches("matcher 1 2");
        matches("matcher 1 MIN", 0);
        matches("matcher 1 -2147483647", 1);
        matches("matcher 1 2147483646", 5);
        matches("matcher 1 MAX", 6);
    }

    /** "2 LESS v: x is less than v": nothing is less than the least int. */
    private static void less() {
        matches("matcher 2 0", 0, 1, 2);
        matches("matcher 2 1", 0, 1, 2, 3);
        matches("matcher 2 -1", 0, 1);
        matches("matcher 2 MIN");
        matches("matcher 2 -2147483647", 0);
        matches("matcher 2 -2147483646", 0, 1);
        matches("matcher 2 MAX", 0, 1, 2, 3, 4, 5);
        matches("matcher 2 2147483646", 0, 1, 2, 3, 4);
    }

    /** "3 MORE v: x is more than v": nothing is more than the greatest int. */
    private static void more() {
        matches("matcher 3 0", 4, 5, 6);
        matches("matcher 3 1", 5, 6);
        matches("matcher 3 -1", 3, 4, 5, 6);
        matches("matcher 3 MAX");
        matches("matcher 3 2147483646", 6);
        matches("matcher 3 2147483645", 5, 6);
        matches("matcher 3 MIN", 1, 2, 3, 4, 5, 6);
        matches("matcher 3 -2147483647", 2, 3, 4, 5, 6);
    }

    /** "4 BOTH, 5 EITHER: two MATCHERS do, or one of them does": neither, one, the other, both. */
    private static void bothAndEither() {
        matches("matcher 3 -1; matcher 2 1; matcher 4 0", 3);
        matches("matcher 2 1; matcher 3 -1; matcher 4 0", 3);
        matches("matcher 1 0; matcher 1 1; matcher 4 0");
        matches("matcher 0 0; matcher 1 1; matcher 4 0", 4);
        matches("matcher 1 1; matcher 0 0; matcher 4 0", 4);
        matches("matcher 0 0; matcher 7 0; matcher 4 0", 0, 1, 2, 3, 4, 5, 6);
        matches("matcher 1 0; matcher 1 1; matcher 5 0", 3, 4);
        matches("matcher 2 1; matcher 3 -1; matcher 5 0", 0, 1, 2, 3, 4, 5, 6);
        matches("matcher 2 MIN; matcher 1 1; matcher 5 0", 4);
        matches("matcher 1 1; matcher 2 MIN; matcher 5 0", 4);
        matches("matcher 2 MIN; matcher 3 MAX; matcher 5 0");
    }

    /** "6 NOT: a MATCHER does not". */
    private static void not() {
        matches("matcher 1 0; matcher 6 0", 0, 1, 2, 4, 5, 6);
        matches("matcher 2 0; matcher 6 0", 3, 4, 5, 6);
        matches("matcher 3 0; matcher 6 0", 0, 1, 2, 3);
        matches("matcher 0 0; matcher 6 0");
        matches("matcher 7 0; matcher 6 0");
        matches("matcher 1 0; matcher 6 0; matcher 6 0", 3);
        matches("matcher 1 0; matcher 1 1; matcher 5 0; matcher 6 0", 0, 1, 2, 5, 6);
        matches("matcher 1 0; matcher 1 1; matcher 4 0; matcher 6 0", 0, 1, 2, 3, 4, 5, 6);
    }

    /** "7 CATCH: always". */
    private static void catchMatchesAlways() {
        matches("matcher 7 0", 0, 1, 2, 3, 4, 5, 6);
        matches("matcher 7 MIN", 0, 1, 2, 3, 4, 5, 6);
    }

    /** "each of its PARAMETERS is matched by the one for it", "the lowest for a". */
    private static void eachParameterByTheOneForIt() {
        String notes = "define 0 1 2 true; make 0 0; call 0 1 1 1; call 0 1 1 2; call 0 1 2 1; call 0 1 2 2; ";
        new Run(notes, "check 0 0 1; matcher 1 1; matcher 1 2; call 0 1 2 1 = PASSED; found 2 = 1");
        new Run(notes, "check 0 0 1; matcher 1 2; matcher 1 1; call 0 1 1 2 = PASSED; found 2 = 2");
        new Run(notes, "check 0 0 2; matcher 1 1; matcher 0 0; call 0 1 0 0 = PASSED; found 2 = 0; found 3 = 1");
        new Run(notes, "check 0 0 2; matcher 0 0; matcher 1 1; call 0 1 0 0 = PASSED; found 2 = 0; found 3 = 2");
        new Run(notes, "check 0 0 0; matcher 1 3; matcher 0 0; call 0 1 1 1 = PASSED");
        new Run(notes, "check 0 0 0; matcher 0 0; matcher 1 3; call 0 1 1 1 = PASSED");
    }

    /** "THE STACK holds at most 6 of them"; "FULL if there are 6 and kind is not 4 to 6". */
    private static void theStackHoldsSix() {
        for (int kind : new int[] {0, 1, 2, 3, 7}) {
            Run run = new Run();
            for (int i = 1; i <= 6; i++) {
                run.go("matcher " + kind + " 0 = " + i + "; count 4 = " + i);
            }
            for (int other : new int[] {0, 1, 2, 3, 7}) {
                run.go("matcher " + other + " 0 = FULL; count 4 = 6; count 9 = 0");
            }
            run.go("matcher 8 0 = REFUSED; matcher -1 0 = REFUSED; count 4 = 6");
        }
        new Run("5 * matcher 0 0; matcher 7 0 = 6; matcher 7 0 = FULL; matcher 4 0 = 5; matcher 7 0 = 6; matcher 7 0 = FULL");
    }

    /** BOTH and EITHER at 6 leave 5, NOT leaves 6. */
    private static void joiningIsNotFullAtSix() {
        new Run("6 * matcher 0 0; matcher 4 0 = 5; matcher 4 0 = 4; matcher 4 0 = 3; count 9 = 0");
        new Run("6 * matcher 0 0; matcher 5 0 = 5; matcher 5 0 = 4; matcher 5 0 = 3; count 9 = 0");
        new Run("6 * matcher 0 0; matcher 6 0 = 6; matcher 6 0 = 6; matcher 0 0 = FULL; count 9 = 0");
    }

    /** "BOTH and EITHER take the two on top, NOT the one on top": what is below stays as it is. */
    private static void theTwoOnTopAndTheOneOnTop() {
        String notes = "define 0 1 2 true; make 0 0; call 0 1 1 2; call 0 1 1 3; call 0 1 1 4; call 0 1 5 2; ";
        new Run(notes, "check 0 0 2; matcher 1 1; matcher 1 2; matcher 1 3; matcher 5 0 = 2; call 0 1 0 0 = PASSED; found 2 = 0; "
                + "found 3 = 1");
        new Run(notes, "check 0 0 1; matcher 1 1; matcher 3 2; matcher 2 4; matcher 4 0 = 2; call 0 1 0 0 = PASSED; found 2 = 1");
        new Run(notes, "check 0 0 2; matcher 1 1; matcher 1 2; matcher 6 0 = 2; call 0 1 0 0 = PASSED; found 2 = 1; found 3 = 2");
        new Run(notes, "check 0 0 1; matcher 1 1; matcher 6 0 = 1; matcher 1 2 = 2; call 0 1 0 0 = PASSED; found 2 = 3");
    }

    /** "matcher() of BOTH, EITHER, NOT with too few on the STACK": WRONG with 0 and 1 (NOT: 0), done with one more. */
    private static void tooFewOnTheStack() {
        for (int kind = 4; kind <= 5; kind++) {
            new Run("matcher " + kind + " 0 = WRONG; count 4 = 0; count 9 = 1");
            new Run("matcher 0 0 = 1; matcher " + kind + " 0 = WRONG; count 4 = 0; count 9 = 1");
            new Run("2 * matcher 0 0; matcher " + kind + " 0 = 1; count 9 = 0");
        }
        new Run("matcher 6 0 = WRONG; count 4 = 0; count 9 = 1");
        new Run("matcher 0 0; matcher 6 0 = 1; count 9 = 0");
    }

    /** "The SIZE of one is 1 and the SIZES of those within it, 8 at most." */
    private static void sizeEightByNot() {
        for (int kind : new int[] {0, 1, 2, 3, 7}) {
            new Run("matcher " + kind + " 0 = 1; 7 * matcher 6 0 = 1; matcher 6 0 = FULL; matcher 6 0 = FULL; count 4 = 1; count 9 = 0");
        }
        // Those below on the STACK are not within it.
        new Run("matcher 0 0; 7 * matcher 6 0 = 1; matcher 0 0 = 2; 7 * matcher 6 0 = 2; matcher 6 0 = FULL");
        new Run(NOTES, "check 0 0 1; matcher 1 0; 6 * matcher 6 0 = 1; call 0 0 0 0 = PASSED; found 2 = 3");
        new Run(NOTES, "check 0 0 6; matcher 1 0; 7 * matcher 6 0 = 1; matcher 6 0 = FULL; call 0 0 0 0 = PASSED; found 4 = 2; "
                + "found 5 = 4");
    }

    /** With SIZES s and t BOTH and EITHER are done if 1 + s + t is 8, and FULL if it is 9. */
    private static void sizeEightByBothAndEither() {
        for (int kind = 4; kind <= 5; kind++) {
            for (int s = 1; s <= 8; s++) {
                for (int t = 1; t <= 8; t++) {
                    Run run = new Run("matcher 0 0", (s - 1) + " * matcher 6 0", "matcher 0 0", (t - 1) + " * matcher 6 0");
                    boolean room = 1 + s + t <= 8;
                    run.go("count 4 = 2; matcher " + kind + " 0 = " + (room ? "1" : "FULL"));
                    run.go("count 4 = " + (room ? 1 : 2) + "; count 9 = 0");
                }
            }
        }
        // Three joined twice are 5, a fourth makes 7, and a NOT of that makes 8.
        new Run("2 * matcher 0 0; matcher 4 0; matcher 0 0; matcher 5 0; matcher 0 0; matcher 4 0 = 1; matcher 6 0 = 1",
                "matcher 6 0 = FULL; matcher 0 0 = 2; matcher 4 0 = FULL; matcher 5 0 = FULL; count 4 = 2");
    }

    /** "(if there are enough on the STACK)": else it is WRONG, though the one that is there is as large as can be. */
    private static void sizeIsFullOnlyIfThereAreEnough() {
        new Run("matcher 0 0; 7 * matcher 6 0; matcher 4 0 = WRONG; count 4 = 0; count 9 = 1");
        new Run("matcher 0 0; 7 * matcher 6 0; matcher 5 0 = WRONG; count 4 = 0; count 9 = 1");
    }

    /** "REFUSED if kind is not 0..7". */
    private static void kindsOutOfRange() {
        for (int kind = 0; kind <= 7; kind++) {
            int due = kind == 4 || kind == 5 ? 1 : kind == 6 ? 2 : 3;
            new Run("2 * matcher 0 0; matcher " + kind + " 0 = " + due);
        }
        for (String bad : new String[] {"-1", "-2", "8", "9", "MIN", "MAX"}) {
            new Run("matcher " + bad + " 0 = REFUSED; count 9 = 0");
            new Run("2 * matcher 0 0; matcher " + bad + " 0 = REFUSED; count 4 = 2; count 9 = 0");
            new Run("6 * matcher 0 0; matcher " + bad + " 0 = REFUSED; count 4 = 6; count 9 = 0");
        }
    }

    /** "(v is looked at for kinds 1 to 3 alone.)" */
    private static void vIsLookedAtForKindsOneToThreeAlone() {
        for (String v : new String[] {"MIN", "-1", "0", "1", "8", "MAX"}) {
            matches("matcher 0 " + v, 0, 1, 2, 3, 4, 5, 6);
            matches("matcher 7 " + v, 0, 1, 2, 3, 4, 5, 6);
            matches("matcher 3 -1; matcher 2 1; matcher 4 " + v, 3);
            matches("matcher 1 0; matcher 1 1; matcher 5 " + v, 3, 4);
            matches("matcher 2 0; matcher 6 " + v, 3, 4, 5, 6);
        }
    }

    /** "(What is within another one CATCHES nothing.)" */
    private static void withinAnotherOneItCatchesNothing() {
        new Run(NOTES, "check 0 0 7; matcher 7 0; call 0 0 0 0 = PASSED; count 7 = 7; caught 0 = MAX; caught 6 = MIN");
        new Run(NOTES, "check 0 0 7; 2 * matcher 7 0; matcher 4 0; call 0 0 0 0 = PASSED; found 1 = 7; count 7 = 0");
        new Run(NOTES, "check 0 0 7; 2 * matcher 7 0; matcher 5 0; call 0 0 0 0 = PASSED; found 1 = 7; count 7 = 0");
        new Run(NOTES, "check 0 0 0; matcher 7 0; matcher 6 0; call 0 0 0 0 = PASSED; count 7 = 0");
        new Run(NOTES, "check 0 0 7; matcher 7 0; 2 * matcher 6 0; call 0 0 0 0 = PASSED; found 1 = 7; count 7 = 0");
        // Of two PARAMETERS, only that whose own MATCHER is a CATCH.
        String two = "define 0 1 2 true; make 0 0; call 0 1 3 4; check 0 0 1; ";
        new Run(two, "matcher 7 0; matcher 7 0; 2 * matcher 6 0; call 0 1 0 0 = PASSED; count 7 = 1; caught 0 = 3");
        new Run(two, "matcher 7 0; 2 * matcher 6 0; matcher 7 0; call 0 1 0 0 = PASSED; count 7 = 1; caught 0 = 4");
    }
}
