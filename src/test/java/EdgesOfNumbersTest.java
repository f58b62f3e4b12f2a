/** The edges in "Terms", first paragraph, and in Promises 2 and 3: how many there are of each, and what wraps. */
public final class EdgesOfNumbersTest {
    private static final String[] BELOW = {"-1", "-2", "MIN"};

    public static void main(String[] args) {
        twelveMethodsEachWithItsOwnShape();
        atFirstNoParametersAndItGives();
        defineRefusesTypes();
        defineRefusesMethods();
        defineRefusesNumbersOfParameters();
        defineIsFullWithOneStandIn();
        sixStandInsNumberedAsTheyAreMade();
        makeRefusesTypes();
        makeRefusesKinds();
        theFirstStandInThatIsNotThere();
        methodsOfACall();
        realResult();
        realResultWrapsAbove();
        realResultWrapsBelow();
        realResultIsZeroIfItDoesNotGive();
        Due.end();
    }

    private static String[] outside(int last) {
        return new String[] {BELOW[0], BELOW[1], BELOW[2], "" + (last + 1), "" + (last + 2), "MAX"};
    }

    /** "TYPES 0..2 have METHODS 0..3; each has 0..2 PARAMETERS (ints) and GIVES an int or not". */
    private static void twelveMethodsEachWithItsOwnShape() {
        for (int turn = 0; turn < 6; turn++) {
            Run run = new Run();
            for (int i = 0; i < 12; i++) {
                int shape = (i + turn) % 6;
                run.go("define " + i / 4 + " " + i % 4 + " " + shape % 3 + " " + (shape < 3) + " = 1");
            }
            run.go("make 0 1 = 0; make 1 1 = 1; make 2 1 = 2");
            for (int i = 0; i < 12; i++) {
                int shape = (i + turn) % 6;
                int a = shape % 3 > 0 ? 100 : 0;
                int b = shape % 3 > 1 ? 10 : 0;
                int real = shape < 3 ? 7 * (i % 4) + 3 * a - b : 0;
                run.go("call " + i / 4 + " " + i % 4 + " 100 10 = " + real);
                run.go("noted " + i + " 3 = " + a + "; noted " + i + " 4 = " + b);
            }
        }
    }

    /** "(at first 0, and it GIVES)". */
    private static void atFirstNoParametersAndItGives() {
        for (int type = 0; type < 3; type++) {
            for (int m = 0; m < 4; m++) {
                Run run = new Run("make " + type + " 1 = 0");
                run.go("call 0 " + m + " 100 10 = " + 7 * m + "; noted 0 3 = 0; noted 0 4 = 0");
                run.go("when = 0; answer 0 5 = 1; call 0 " + m + " 1 2 = 5");
                run.go("matcher 0 0; call 0 " + m + " 0 0 = WRONG");
            }
        }
    }

    /** "REFUSED if t is not 0..2". */
    private static void defineRefusesTypes() {
        for (int t = 0; t <= 2; t++) {
            new Run("define " + t + " 0 0 true = 1; define " + t + " 3 2 false = 1");
        }
        for (String bad : outside(2)) {
            new Run("define " + bad + " 0 0 true = REFUSED; define " + bad + " 3 2 false = REFUSED; count 9 = 0");
        }
    }

    /** "m not 0..3". */
    private static void defineRefusesMethods() {
        for (int m = 0; m <= 3; m++) {
            new Run("define 0 " + m + " 0 true = 1; define 2 " + m + " 2 false = 1");
        }
        for (String bad : outside(3)) {
            new Run("define 0 " + bad + " 0 true = REFUSED; define 2 " + bad + " 2 false = REFUSED; count 9 = 0");
        }
        // One past a TYPE's METHODS is not the next TYPE's first one.
        new Run("define 0 4 2 true = REFUSED; define 1 -1 2 true = REFUSED; make 1 1; call 0 0 50 4 = 0; make 0 1; call 1 3 50 4 = 21");
    }

    /** "or many not 0..2"; nothing changes by it. */
    private static void defineRefusesNumbersOfParameters() {
        for (int many = 0; many <= 2; many++) {
            new Run("define 0 0 " + many + " true = 1; define 2 3 " + many + " false = 1");
        }
        for (String bad : outside(2)) {
            new Run("define 0 0 1 true = 1; define 0 0 " + bad + " false = REFUSED; count 9 = 0",
                    "make 0 1 = 0; call 0 0 5 9 = 15");
        }
    }

    /** "FULL if there is a STAND-IN"; what is out of range is REFUSED first. */
    private static void defineIsFullWithOneStandIn() {
        for (int t = 0; t <= 2; t++) {
            for (int m = 0; m <= 3; m++) {
                String define = "define " + t + " " + m + " ";
                new Run(define + "1 true = 1; make " + t + " 1 = 0", define + "2 false = FULL",
                        define + "3 true = REFUSED", "call 0 " + m + " 5 9 = " + (7 * m + 15));
            }
        }
        new Run("make 0 0 = 0; define 3 0 0 true = REFUSED; define 0 4 0 true = REFUSED; define -1 0 0 true = REFUSED");
        new Run("make 3 0 = REFUSED; define 0 0 1 true = 1");
        new Run("6 * make 0 0; define 0 0 0 true = FULL");
    }

    /** "STAND-INS 0..5 are numbered as they are made"; make is "FULL if there are 6". */
    private static void sixStandInsNumberedAsTheyAreMade() {
        Run run = new Run();
        for (int i = 0; i < 6; i++) {
            run.go("count 0 = " + i + "; make " + i % 3 + " " + i % 3 + " = " + i);
        }
        run.go("count 0 = 6; make 0 0 = FULL; make 2 2 = FULL; count 0 = 6");
        run.go("make 3 0 = REFUSED; make 0 3 = REFUSED; make -1 0 = REFUSED; make 0 -1 = REFUSED; count 9 = 0");
        run.go("call 0 3 0 0 = 0; call 1 3 0 0 = 21; call 2 3 0 0 = UNTOLD");
        run.go("call 3 3 0 0 = 0; call 4 3 0 0 = 21; call 5 3 0 0 = UNTOLD; call 6 3 0 0 = REFUSED");
    }

    /** "REFUSED if type is not 0..2". */
    private static void makeRefusesTypes() {
        for (int type = 0; type <= 2; type++) {
            new Run("make " + type + " 0 = 0; make " + type + " 2 = 1");
        }
        for (String bad : outside(2)) {
            new Run("make " + bad + " 0 = REFUSED; make " + bad + " 2 = REFUSED; count 0 = 0; count 9 = 0; make 0 0 = 0");
        }
    }

    /** "or kind not 0..2": 0 QUIET, 1 REAL, 2 STRICT. */
    private static void makeRefusesKinds() {
        new Run("make 0 0 = 0; make 2 0 = 1; call 0 2 0 0 = 0; call 1 2 0 0 = 0");
        new Run("make 0 1 = 0; make 2 1 = 1; call 0 2 0 0 = 14; call 1 2 0 0 = 14");
        new Run("make 0 2 = 0; make 2 2 = 1; call 0 2 0 0 = UNTOLD; call 1 2 0 0 = UNTOLD");
        for (String bad : outside(2)) {
            new Run("make 0 " + bad + " = REFUSED; make 2 " + bad + " = REFUSED; count 0 = 0; count 9 = 0; make 0 0 = 0");
        }
    }

    /** "A STEP ... that names what is not there, is REFUSED": call, told, check and noMore, with 0 to 6 STAND-INS. */
    private static void theFirstStandInThatIsNotThere() {
        for (int there = 0; there <= 6; there++) {
            String made = "answer 0 1; " + there + " * make 0 0; ";
            for (int s = 0; s < there; s++) {
                new Run(made, "call " + s + " 0 0 0 = 0; told " + s + " = 1; call " + s + " 0 0 0 = 0");
                new Run(made, "check " + s + " 0 0 = 1; call " + s + " 0 0 0 = PASSED; noMore " + s + " = -6");
            }
            for (String bad : outside(there - 1)) {
                new Run(made, "call " + bad + " 0 0 0 = REFUSED; told " + bad + " = REFUSED",
                        "check " + bad + " 0 0 = REFUSED; noMore " + bad + " = REFUSED; count 1 = 0; count 5 = 0; count 6 = 1; "
                        + "count 9 = 0");
            }
        }
    }

    /** call is REFUSED if "m is not 0..3". */
    private static void methodsOfACall() {
        for (int m = 0; m <= 3; m++) {
            new Run("make 0 1; call 0 " + m + " 0 0 = " + 7 * m + "; noted 0 2 = " + m);
        }
        for (String bad : outside(3)) {
            new Run("3 * make 1 1; call 0 " + bad + " 0 0 = REFUSED; call 2 " + bad + " 0 0 = REFUSED; count 1 = 0; count 9 = 0");
        }
    }

    /** "7 m + 3 a - b", with "0 where it has no such PARAMETER". */
    private static void realResult() {
        for (int m = 0; m <= 3; m++) {
            String[] parameters = {"define 0 " + m + " 0 true", "define 0 " + m + " 1 true", "define 0 " + m + " 2 true"};
            new Run(parameters[0], "make 0 1; call 0 " + m + " 5 2 = " + 7 * m);
            new Run(parameters[1], "make 0 1; call 0 " + m + " 5 2 = " + (7 * m + 15));
            new Run(parameters[2], "make 0 1; call 0 " + m + " 5 2 = " + (7 * m + 13));
            new Run(parameters[2], "make 0 1; call 0 " + m + " -5 -2 = " + (7 * m - 13));
        }
    }

    private static final String REAL = "define 0 0 2 true; define 0 3 2 true; make 0 1; ";
    private static final String REALLY = "define 0 0 2 true; define 0 3 2 true; make 0 0; answer 3 0; told 0; "
            + "2 * matcher 0 0; call 0 0 0 0; answer 3 0; told 0; 2 * matcher 0 0; call 0 3 0 0; ";

    /** "(wraps)": the greatest int is reached, and one more is the least. */
    private static void realResultWrapsAbove() {
        for (String how : new String[] {REAL, REALLY}) {
            new Run(how, "call 0 0 715827882 0 = 2147483646; call 0 0 715827882 -1 = MAX; call 0 0 715827882 -2 = MIN");
            new Run(how, "call 0 0 715827883 0 = -2147483647; call 0 0 0 MIN = MIN; call 0 0 -1 MIN = 2147483645");
            new Run(how, "call 0 3 715827875 0 = 2147483646; call 0 3 715827875 -1 = MAX; call 0 3 715827875 -2 = MIN");
            new Run(how, "call 0 0 MAX 0 = 2147483645; call 0 3 MAX MIN = 18");
        }
    }

    /** "(wraps)": the least int is reached, and one less is the greatest. */
    private static void realResultWrapsBelow() {
        for (String how : new String[] {REAL, REALLY}) {
            new Run(how, "call 0 0 -715827882 1 = -2147483647; call 0 0 -715827882 2 = MIN; call 0 0 -715827882 3 = MAX");
            new Run(how, "call 0 3 -715827889 2 = MIN; call 0 3 -715827889 3 = MAX");
            new Run(how, "call 0 0 MIN 0 = MIN; call 0 0 MIN 1 = MAX; call 0 3 MIN MAX = 22");
        }
    }

    /** "or 0 if it does not GIVE". */
    private static void realResultIsZeroIfItDoesNotGive() {
        for (int many = 0; many <= 2; many++) {
            for (int m = 0; m <= 3; m++) {
                new Run("define 1 " + m + " " + many + " false; make 1 1; call 0 " + m + " 5 2 = 0; call 0 " + m + " MAX MIN = 0");
            }
        }
    }
}
