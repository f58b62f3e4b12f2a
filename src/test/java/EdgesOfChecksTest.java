/** The edges in "Terms" on a CHECK, IN ORDER and the PLACE, and in Promises 9 to 11. */
public final class EdgesOfChecksTest {
    /** METHODS 0 to 2 have 0, 1 and 2 PARAMETERS. */
    private static final String TWO = "define 0 1 1 true; define 0 2 2 true; make 0 0; make 0 2; ";

    public static void main(String[] args) {
        timesLeastMost();
        upToForty();
        only();
        onlyLooksAtNoNumber();
        standInsAndMethodsApart();
        takenBackCallsAreNotFound();
        inOrderFromThePlaceOn();
        inOrderTheNthOne();
        inOrderBroken();
        thePlaceIsANumber();
        onePlaceForAllStandIns();
        otherModesLeaveThePlace();
        seenIfItPasses();
        seenUpToTheNth();
        caughtIfItPasses();
        caughtAOfEachBeforeB();
        caughtUpToTheNth();
        checkRefusesModes();
        checkRefusesNumbers();
        noMoreTellsTheFirstNotSeen();
        noMoreWithFortyNoted();
        restartTellsWhatItWas();
        Due.end();
    }

    private static String check(int mode, int n, int a, boolean passes) {
        return "check 0 " + mode + " " + n + " = 1; call 0 1 " + a + " 0 = " + (passes ? "PASSED" : "BROKEN")
                + "; found 0 = " + (passes ? 1 : 0) + "; count 5 = 0; ";
    }

    /** "0 TIMES n: they are n   1 LEAST n: n or more   2 MOST n: n or fewer": one fewer, n, one more. */
    private static void timesLeastMost() {
        for (int there = 0; there <= 4; there++) {
            String notes = TWO + "call 0 1 6 0; call 1 1 5 0; " + there + " * call 0 1 5 0; call 0 1 4 0; ";
            for (int n = 0; n <= 5; n++) {
                new Run(notes, check(0, n, 5, there == n), "found 1 = " + there + "; count 8 = -1");
                new Run(notes, check(1, n, 5, there >= n), "found 1 = " + there + "; count 8 = -1");
                new Run(notes, check(2, n, 5, there <= n), "found 1 = " + there + "; count 8 = -1");
            }
        }
    }

    /** "n not 0..40": with 39 and 40 CALLS noted. */
    private static void upToForty() {
        for (int there = 39; there <= 40; there++) {
            String notes = TWO + there + " * call 0 1 5 0; ";
            for (int n = 38; n <= 40; n++) {
                new Run(notes, check(0, n, 5, there == n));
                new Run(notes, check(1, n, 5, there >= n));
                new Run(notes, check(2, n, 5, there <= n));
                new Run(notes, check(4, n, 5, there >= n), "count 8 = " + (there >= n ? n - 1 : -1));
            }
            new Run(notes, check(0, there, 5, true), "found " + (1 + there) + " = " + (there - 1) + "; "
                    + "found " + (2 + there) + " = REFUSED");
        }
    }

    /** "3 ONLY: one is FOUND, and it is the only noted CALL of the STAND-IN". */
    private static void only() {
        new Run(TWO, check(3, 0, 5, false), "found 1 = 0");
        new Run(TWO, "call 0 1 5 0", check(3, 0, 5, true), "found 1 = 1; found 2 = 0");
        new Run(TWO, "2 * call 0 1 5 0", check(3, 0, 5, false), "found 1 = 2");
        new Run(TWO, "call 0 1 6 0", check(3, 0, 5, false), "found 1 = 0");
        new Run(TWO, "call 0 1 6 0; call 0 1 5 0", check(3, 0, 5, false), "found 1 = 1; found 2 = 1");
        new Run(TWO, "call 0 1 5 0; call 0 1 6 0", check(3, 0, 5, false), "found 1 = 1; found 2 = 0");
        new Run(TWO, "call 0 0 0 0; call 0 1 5 0", check(3, 0, 5, false), "found 1 = 1; noMore 0 = 0");
        new Run(TWO, "call 0 1 5 0; call 0 2 5 0", check(3, 0, 5, false), "found 1 = 1; noMore 0 = 0");
        // CALLS of others, and those that were taken back, do not count.
        new Run(TWO, "call 1 1 5 0; call 0 1 5 0; call 1 1 5 0", check(3, 0, 5, true), "found 1 = 1; found 2 = 1");
        new Run(TWO, "call 0 1 5 0; call 0 1 6 0; when; answer 0 1", check(3, 0, 5, true), "found 2 = 0");
        new Run(TWO, "39 * call 1 1 5 0; call 0 1 5 0", check(3, 0, 5, true), "found 2 = 39");
    }

    /** n says nothing for ONLY, but is held to its range. */
    private static void onlyLooksAtNoNumber() {
        for (int n : new int[] {0, 1, 2, 39, 40}) {
            new Run(TWO, "call 0 1 5 0", check(3, n, 5, true));
            new Run(TWO, "2 * call 0 1 5 0", check(3, n, 5, false));
            new Run(TWO, check(3, n, 5, false));
        }
    }

    /** FOUND are those "that its MATCHERS match": of the same STAND-IN and METHOD. */
    private static void standInsAndMethodsApart() {
        String notes = TWO + "call 0 0 0 0; call 0 1 0 0; call 0 2 0 0; call 1 0 0 0; call 1 1 0 0; call 1 2 0 0; ";
        for (int s = 0; s < 2; s++) {
            for (int m = 0; m < 3; m++) {
                new Run(notes, "check " + s + " 0 1; call " + s + " " + m + " 0 0 = PASSED; found 2 = " + (3 * s + m) + "; "
                        + "noted " + (3 * s + m) + " 5 = 1");
            }
            new Run(notes, "check " + s + " 0 0; call " + s + " 3 0 0 = PASSED; found 1 = 0; found 2 = REFUSED");
        }
    }

    /** "it is noted no more": so it is not FOUND. */
    private static void takenBackCallsAreNotFound() {
        new Run(TWO, "2 * call 0 1 5 0; when; answer 0 1; call 0 1 5 0 = 1", check(0, 2, 5, true), "found 2 = 0; found 3 = 2");
        new Run(TWO, "call 0 1 5 0; when; answer 0 1", check(0, 0, 5, true), "found 1 = 0");
    }

    /** "(for IN ORDER only those above the PLACE)", "the PLACE (at first -1)": NUMBER 0 is above that. */
    private static void inOrderFromThePlaceOn() {
        String notes = TWO + "3 * call 0 1 5 0; ";
        new Run(notes, "count 8 = -1", check(4, 1, 5, true), "found 2 = 0; count 8 = 0", check(4, 1, 5, true), "found 2 = 1; count 8 = 1",
                check(4, 1, 5, true), "found 2 = 2; count 8 = 2", check(4, 1, 5, false), "found 1 = 0; count 8 = 2");
        // The one at the PLACE is not above it, and the next one is.
        new Run(TWO, "call 0 1 5 0; call 0 1 6 0; call 0 1 5 0", check(4, 1, 6, true), "count 8 = 1", check(4, 1, 6, false),
                "found 1 = 0", check(4, 1, 5, true), "found 1 = 1; found 2 = 2; count 8 = 2");
        new Run(TWO, "call 0 1 5 0; call 0 1 6 0", check(4, 1, 6, true), check(4, 1, 5, false), "found 1 = 0; count 8 = 1");
    }

    /** "4 IN ORDER n (n 1..): n or more; then those behind the n-th one are not FOUND, and the PLACE ... is the NUMBER of that". */
    private static void inOrderTheNthOne() {
        for (int n = 1; n <= 4; n++) {
            Run run = new Run(TWO, "call 0 1 6 0; 3 * call 0 1 5 0; call 0 1 6 0; call 0 1 5 0", check(4, n, 5, true));
            run.go("found 1 = " + n + "; found 2 = 1; found " + (1 + n) + " = " + (n < 4 ? n : 5) + "; found " + (2 + n) + " = REFUSED");
            run.go("count 8 = " + (n < 4 ? n : 5));
        }
        new Run(TWO, "5 * call 0 1 5 0", check(4, 2, 5, true), "count 8 = 1", check(4, 3, 5, true), "found 2 = 2; found 4 = 4; "
                + "count 8 = 4", check(4, 1, 5, false));
        new Run(TWO, "5 * call 0 1 5 0", check(4, 2, 5, true), check(4, 4, 5, false), "found 1 = 3; count 8 = 1");
    }

    /** BROKEN: all above the PLACE are FOUND, and the PLACE stays. */
    private static void inOrderBroken() {
        new Run(TWO, "3 * call 0 1 5 0", check(4, 4, 5, false), "found 1 = 3; found 2 = 0; found 4 = 2; found 5 = REFUSED; count 8 = -1; "
                + "noted 0 5 = 0", check(4, 3, 5, true), "count 8 = 2");
        new Run(TWO, "3 * call 0 1 5 0", check(4, 1, 5, true), check(4, 3, 5, false), "found 1 = 2; found 2 = 1; count 8 = 0; "
                + "noted 1 5 = 0", check(4, 2, 5, true), "count 8 = 2");
        new Run(TWO, check(4, 1, 5, false), "found 1 = 0; count 8 = -1");
    }

    /** The PLACE is a NUMBER, not which of those noted still it is. */
    private static void thePlaceIsANumber() {
        String notes = TWO + "call 0 1 5 0; call 0 1 8 0; when = 0; answer 0 1; call 0 1 5 0; call 0 1 6 0; ";
        new Run(notes, check(4, 2, 5, true), "found 2 = 0; found 3 = 2; count 8 = 2",
                check(4, 1, 5, false), check(4, 1, 6, true), "count 8 = 3; found 2 = 3");
    }

    /** There is one PLACE, whichever STAND-IN is checked. */
    private static void onePlaceForAllStandIns() {
        String notes = TWO + "call 1 1 5 0; call 0 1 5 0; call 1 1 5 0; ";
        new Run(notes, check(4, 1, 5, true), "count 8 = 1; check 1 4 2; call 1 1 5 0 = BROKEN; found 1 = 1; check 1 4 1; "
                + "call 1 1 5 0 = PASSED; found 2 = 2; count 8 = 2");
        new Run(notes, "check 1 4 2; call 1 1 5 0 = PASSED; count 8 = 2", check(4, 1, 5, false));
    }

    /** Only IN ORDER looks at the PLACE, or moves it. */
    private static void otherModesLeaveThePlace() {
        String notes = TWO + "call 0 1 5 0; check 0 4 1; call 0 1 5 0 = PASSED; count 8 = 0; ";
        for (int mode = 0; mode <= 3; mode++) {
            new Run(notes, check(mode, 1, 5, true), "found 1 = 1; found 2 = 0; count 8 = 0");
            new Run(TWO, "call 0 1 5 0", check(mode, 1, 5, true), "count 8 = -1", check(4, 1, 5, true), "found 2 = 0");
        }
    }

    /** "If it PASSES those FOUND are SEEN", and stay so; if not, they are not. */
    private static void seenIfItPasses() {
        String notes = TWO + "call 0 1 5 0; call 0 1 6 0; call 0 1 5 0; call 1 1 5 0; ";
        for (int mode = 0; mode <= 2; mode++) {
            new Run(notes, check(mode, 2, 5, true), "noted 0 5 = 1; noted 1 5 = 0; noted 2 5 = 1; noted 3 5 = 0",
                    check(0, 3, 5, false), "noted 0 5 = 1; noted 1 5 = 0; noted 2 5 = 1; noted 3 5 = 0");
        }
        int[] broken = {3, 3, 1, 1, 3};
        for (int mode = 0; mode <= 4; mode++) {
            new Run(notes, check(mode, broken[mode], 5, false), "noted 0 5 = 0; noted 1 5 = 0; noted 2 5 = 0; noMore 0 = 0");
        }
        new Run(TWO, "call 0 1 5 0; call 1 1 5 0", check(3, 1, 5, true), "noted 0 5 = 1; noted 1 5 = 0; call 0 1 5 0; noted 2 5 = 0");
    }

    /** IN ORDER: "those behind the n-th one are not FOUND", so not SEEN, nor those at or below the PLACE. */
    private static void seenUpToTheNth() {
        for (int n = 1; n <= 4; n++) {
            Run run = new Run(TWO, "4 * call 0 1 5 0", check(4, n, 5, true));
            for (int k = 0; k < 4; k++) {
                run.go("noted " + k + " 5 = " + (k < n ? 1 : 0));
            }
            run.go("noMore 0 = " + (n < 4 ? n : -6));
        }
        new Run(TWO, "call 0 1 5 0; call 0 1 6 0; call 0 1 5 0", check(4, 1, 6, true), check(4, 1, 5, true), "noted 0 5 = 0; "
                + "noted 1 5 = 1; noted 2 5 = 1; noMore 0 = 0");
    }

    /** "each PARAMETER whose MATCHER is a CATCH is CAUGHT", if it PASSES. */
    private static void caughtIfItPasses() {
        String notes = TWO + "call 0 2 1 2; call 0 2 3 4; ";
        int[] passing = {2, 2, 2, 0, 2};
        int[] broken = {3, 3, 1, 0, 3};
        for (int mode = 0; mode <= 4; mode++) {
            if (mode != 3) {
                new Run(notes, "check 0 " + mode + " " + passing[mode] + "; 2 * matcher 7 0; call 0 2 0 0 = PASSED; count 7 = 4");
            }
            new Run(notes, "check 0 " + mode + " " + broken[mode] + "; 2 * matcher 7 0; call 0 2 0 0 = BROKEN; count 7 = 0; "
                    + "caught 0 = REFUSED");
        }
        new Run(TWO, "call 0 2 1 2; check 0 3 0; 2 * matcher 7 0; call 0 2 0 0 = PASSED; count 7 = 2; caught 0 = 2; caught 1 = 1");
        new Run(TWO, "check 0 0 0; 2 * matcher 7 0; call 0 2 0 0 = PASSED; count 7 = 0");
    }

    /** "(that of a before that of b)", "for each of them". */
    private static void caughtAOfEachBeforeB() {
        String notes = TWO + "call 0 2 1 2; call 0 2 3 4; check 0 0 2; ";
        new Run(notes, "2 * matcher 7 0; call 0 2 0 0 = PASSED; caught 3 = 1; caught 2 = 2; caught 1 = 3; caught 0 = 4; "
                + "caught 4 = REFUSED");
        new Run(notes, "matcher 7 0; matcher 0 0; call 0 2 0 0 = PASSED; caught 1 = 1; caught 0 = 3; caught 2 = REFUSED; count 7 = 2");
        new Run(notes, "matcher 0 0; matcher 7 0; call 0 2 0 0 = PASSED; caught 1 = 2; caught 0 = 4; caught 2 = REFUSED; count 7 = 2");
        new Run(notes, "2 * matcher 0 0; call 0 2 0 0 = PASSED; count 7 = 0");
        // A CALL that was noted with a CATCH, or told with one, CATCHES nothing: only a CHECK does.
        new Run(TWO, "matcher 7 0; call 0 1 5 0; call 0 1 5 0; answer 0 1; told 0; matcher 7 0; call 0 1 0 0; call 0 1 5 0 = 1; "
                + "count 7 = 0");
    }

    private static void caughtUpToTheNth() {
        String notes = TWO + "call 0 1 1 0; call 0 1 2 0; call 0 1 3 0; ";
        new Run(notes, "check 0 4 2; matcher 7 0; call 0 1 0 0 = PASSED; count 7 = 2; caught 0 = 2; caught 1 = 1",
                "check 0 4 2; matcher 7 0; call 0 1 0 0 = BROKEN; count 7 = 2; check 0 4 1; matcher 7 0; call 0 1 0 0 = PASSED; "
                + "count 7 = 3; caught 0 = 3");
    }

    /** "mode not 0..4". */
    private static void checkRefusesModes() {
        for (int mode = 0; mode <= 4; mode++) {
            new Run(TWO, "check 0 " + mode + " 1 = 1; count 5 = 3; call 0 0 0 0; found 1 = 0");
        }
        for (String bad : new String[] {"-1", "-2", "5", "6", "MIN", "MAX"}) {
            new Run(TWO, "check 0 " + bad + " 0 = REFUSED; check 0 " + bad + " 1 = REFUSED; check 0 " + bad + " 40 = REFUSED; count 5 = 0; "
                    + "count 9 = 0");
        }
    }

    /** "or n not 0..40 (IN ORDER 1..40)". */
    private static void checkRefusesNumbers() {
        for (int mode = 0; mode <= 4; mode++) {
            String check = "check 1 " + mode + " ";
            for (String bad : new String[] {"-1", "-2", "41", "42", "MIN", "MAX"}) {
                new Run(TWO, check + bad + " = REFUSED; count 5 = 0; count 9 = 0; call 1 0 0 0 = UNTOLD");
            }
            new Run(TWO, check + "0 = " + (mode == 4 ? "REFUSED" : "1"));
            new Run(TWO, check + "1 = 1");
            new Run(TWO, check + "40 = 1");
        }
    }

    /** "The NUMBER of the first noted CALL of this STAND-IN that is not SEEN; -6 if there is none." */
    private static void noMoreTellsTheFirstNotSeen() {
        new Run(TWO, "noMore 0 = -6; noMore 1 = -6; call 0 1 5 0; noMore 0 = 0; noMore 1 = -6");
        new Run(TWO, "call 1 1 5 0; call 0 1 5 0; call 0 1 6 0; noMore 0 = 1", check(0, 1, 5, true), "noMore 0 = 2",
                check(0, 1, 6, true), "noMore 0 = -6; noMore 1 = 0");
        new Run(TWO, "call 0 1 5 0; call 0 1 6 0", check(0, 1, 6, true), "noMore 0 = 0", check(0, 1, 5, true), "noMore 0 = -6; "
                + "call 0 1 5 0; noMore 0 = 2");
        // It is a NUMBER; and a CALL that was taken back is none that is not SEEN.
        new Run(TWO, "call 0 1 8 0; when; answer 0 1; noMore 0 = -6; call 0 1 5 0; noMore 0 = 1");
    }

    private static void noMoreWithFortyNoted() {
        new Run(TWO, "39 * call 0 1 5 0; call 0 1 6 0", check(0, 39, 5, true), "noMore 0 = 39", check(0, 1, 6, true), "noMore 0 = -6");
        new Run(TWO, "39 * call 1 1 5 0; call 0 1 6 0; noMore 0 = 39; noMore 1 = 0");
    }

    /** "The PLACE is -1 again: what it was." */
    private static void restartTellsWhatItWas() {
        String notes = TWO + "2 * call 0 1 5 0; ";
        new Run(TWO, "restart = -1; count 8 = -1; restart = -1");
        new Run(notes, check(4, 1, 5, true), "restart = 0; count 8 = -1; restart = -1", check(4, 2, 5, true), "restart = 1; count 8 = -1",
                check(4, 2, 5, true), "found 2 = 0; count 8 = 1");
        // SEEN, CAUGHT and FOUND stay.
        new Run(notes, "check 0 4 1; matcher 7 0; call 0 1 0 0 = PASSED; restart = 0; noted 0 5 = 1; caught 0 = 5; found 2 = 0; "
                + "count 1 = 2");
        // By MISUSE it stays.
        new Run(notes, check(4, 2, 5, true), "matcher 0 0; restart = MISPLACED; count 8 = 1; check 0 0 0; restart = UNFINISHED; "
                + "count 8 = 1; restart = 1");
    }
}
