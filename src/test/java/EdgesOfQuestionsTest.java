/** The edges in Promises 1 and 12 to 16: the first and the last thing that can be asked for, and those beside them. */
public final class EdgesOfQuestionsTest {
    /** METHODS 0 to 2 have 0, 1 and 2 PARAMETERS. */
    private static final String TWO = "define 0 1 1 true; define 0 2 2 true; make 0 0; make 0 2; ";
    private static final String[] WILD = {"-1", "-2", "MIN", "MAX"};

    public static void main(String[] args) {
        aNewObject();
        notedFromTheFirstToTheLast();
        notedWhatIsAsked();
        notedStill();
        theTellingThatAnswered();
        tellingFromTheFirstToTheLast();
        tellingWhatIsAsked();
        foundBehindNoCheck();
        foundFromTheFirstToTheLast();
        foundOfTheLatestCheckThatWasDone();
        caughtFromTheFirstToTheLast();
        caughtOfTheLatestTwelve();
        aValueMayBeMinusOne();
        countWhatIsAsked();
        countStandInsAndNotes();
        countTellings();
        countTellingsThatNeverAnswered();
        countCaught();
        Due.end();
    }

    private static void refused(String before, String question) {
        for (String wild : WILD) {
            new Run(before, question.replace("N", wild) + " = REFUSED");
        }
    }

    /** "No STAND-INS, nothing noted." */
    private static void aNewObject() {
        new Run("count 0 = 0; count 1 = 0; count 2 = 0; count 3 = 0; count 4 = 0; count 5 = 0; count 6 = 0; count 7 = 0; count 8 = -1; "
                + "count 9 = 0");
        new Run("noted 0 0 = REFUSED; telling 0 0 = REFUSED; found 0 = REFUSED; found 1 = REFUSED; caught 0 = REFUSED");
        new Run("call 0 0 0 0 = REFUSED; told 0 = REFUSED; check 0 0 0 = REFUSED; noMore 0 = REFUSED; restart = -1; when = WRONG");
    }

    /** "Of noted CALL k (0 the first that is noted still)": k from 0 to one less than there are. */
    private static void notedFromTheFirstToTheLast() {
        for (int there : new int[] {0, 1, 2, 39, 40}) {
            String notes = TWO + there + " * call 1 2 8 9; ";
            for (int what = 0; what <= 6; what++) {
                new Run(notes, "noted " + there + " " + what + " = REFUSED; noted " + (there + 1) + " " + what + " = REFUSED");
                refused(notes, "noted N " + what);
            }
            for (int k = 0; k < there; k++) {
                new Run(notes, "noted " + k + " 0 = " + k + "; noted " + k + " 1 = 1; noted " + k + " 2 = 2; noted " + k + " 3 = 8; "
                        + "noted " + k + " 4 = 9; noted " + k + " 5 = 0; noted " + k + " 6 = -1");
            }
        }
    }

    /** "what 0 ... 6", "REFUSED for others". */
    private static void notedWhatIsAsked() {
        String told = TWO + "answer 0 3; told 1; call 1 2 8 9; call 0 0 0 0; call 1 2 8 9 = 3; check 1 0 1; call 1 2 8 9; ";
        new Run(told, "noted 1 0 = 1; noted 1 1 = 1; noted 1 2 = 2; noted 1 3 = 8; noted 1 4 = 9; noted 1 5 = 1; noted 1 6 = 0");
        new Run(told, "noted 1 7 = REFUSED; noted 1 8 = REFUSED; noted 0 7 = REFUSED");
        refused(told, "noted 0 N");
        refused(told, "noted 1 N");
    }

    /** "that is noted still": what was taken back is not asked for any more, and its row is clean for the next. */
    private static void notedStill() {
        new Run(TWO, "call 0 1 5 0; call 0 1 6 0; when; answer 0 3; noted 1 0 = REFUSED; noted 0 3 = 5; call 1 2 7 8; noted 1 0 = 2; "
                + "noted 1 1 = 1; noted 1 2 = 2; noted 1 3 = 7; noted 1 4 = 8; noted 1 5 = 0; noted 1 6 = -1");
        new Run(TWO, "answer 0 3; told 0; call 0 0 0 0; call 0 0 0 0 = 3; noted 0 6 = 0; when = 1; answer 0 4; call 1 0 0 0; "
                + "noted 0 0 = 1; noted 0 6 = -1; noted 0 5 = 0");
    }

    /** "6: the TELLING that ANSWERED it, -1 if none": the first and the last of 16. */
    private static void theTellingThatAnswered() {
        Run run = new Run(TWO, tellings(16));
        run.go("call 0 1 0 0 = 0; call 0 1 15 0 = 15; call 0 1 16 0 = 0; call 1 1 0 0 = UNTOLD");
        run.go("noted 0 6 = 0; noted 1 6 = 15; noted 2 6 = -1; noted 3 6 = -1");
        // It stays, whatever is told later.
        new Run(TWO, "call 0 1 5 0; answer 0 1; told 0; call 0 1 5 0; noted 0 6 = -1; call 0 1 5 0; answer 0 2; told 0; call 0 1 5 0; "
                + "noted 1 6 = 0");
    }

    private static String tellings(int many) {
        StringBuilder text = new StringBuilder();
        for (int i = 0; i < many; i++) {
            text.append("answer 0 ").append(i).append("; told 0; call 0 1 ").append(i).append(" 0; ");
        }
        return text.toString();
    }

    /** "Of TELLING t": t from 0 to one less than were made. */
    private static void tellingFromTheFirstToTheLast() {
        for (int made : new int[] {0, 1, 2, 15, 16}) {
            String told = TWO + tellings(made);
            for (int what = 0; what <= 4; what++) {
                new Run(told, "telling " + made + " " + what + " = REFUSED; telling " + (made + 1) + " " + what + " = REFUSED");
                refused(told, "telling N " + what);
            }
            for (int t = 0; t < made; t++) {
                new Run(told, "telling " + t + " 0 = 0; telling " + t + " 1 = 1; telling " + t + " 2 = 1; telling " + t + " 3 = 0; "
                        + "telling " + t + " 4 = 1");
            }
        }
    }

    /** "what 0 ... 4: 1, or 0 if it is no more", "REFUSED for others". */
    private static void tellingWhatIsAsked() {
        String told = TWO + "call 1 2 8 9; when; answer 0 3; answer 0 4; answer 0 5; 2 * call 1 2 8 9; ";
        new Run(told, "telling 0 0 = 1; telling 0 1 = 2; telling 0 2 = 3; telling 0 3 = 2; telling 0 4 = 1; telling 0 5 = REFUSED; "
                + "telling 0 6 = REFUSED");
        refused(told, "telling 0 N");
        // One that is no more is there to be asked for.
        new Run(TWO, "call 1 2 8 9; when; telling 0 4 = 1; restart = UNFINISHED; telling 0 0 = 1; telling 0 1 = 2; telling 0 2 = 0; "
                + "telling 0 3 = 0; telling 0 4 = 0; telling 0 5 = REFUSED; telling 1 0 = REFUSED");
    }

    /** "Of the latest CHECK that was done (REFUSED if there was none)". */
    private static void foundBehindNoCheck() {
        for (String before : new String[] {"restart", TWO, TWO + "call 0 1 5 0", TWO + "check 0 0 0", TWO + "check 0 0 0; restart",
                TWO + "check 0 0 0; matcher 0 0",
            TWO + "check 0 0 0; call 1 0 0 0", TWO + "check 0 0 0; matcher 0 0; call 0 0 0 0", TWO + "answer 0 1; told 0; call 0 0 0 0"}) {
            new Run(before, "found 0 = REFUSED; found 1 = REFUSED; found 2 = REFUSED; found 41 = REFUSED");
            refused(before, "found N");
        }
    }

    /** "2 + k: the NUMBER of the k-th (0 first) of these. REFUSED for others." */
    private static void foundFromTheFirstToTheLast() {
        for (int there : new int[] {0, 1, 2, 39, 40}) {
            String checked = TWO + there + " * call 0 1 5 0; check 0 0 " + there + "; call 0 1 5 0 = PASSED; ";
            Run run = new Run(checked, "found 0 = 1; found 1 = " + there);
            for (int k = 0; k < there; k++) {
                run.go("found " + (2 + k) + " = " + k);
            }
            run.go("found " + (2 + there) + " = REFUSED; found " + (3 + there) + " = REFUSED");
            refused(checked, "found N");
            new Run(checked, "found 2147483646 = REFUSED; found -2147483647 = REFUSED; found -2147483646 = REFUSED");
        }
    }

    /** The latest one, PASSED or BROKEN; a CHECK that was not done leaves it, and so does what comes later. */
    private static void foundOfTheLatestCheckThatWasDone() {
        String notes = TWO + "call 0 1 5 0; call 0 1 6 0; call 0 1 5 0; ";
        new Run(notes, "check 0 0 2; call 0 1 5 0 = PASSED; found 0 = 1; found 1 = 2; check 0 0 9; found 1 = 2; call 0 1 6 0 = BROKEN; "
                + "found 0 = 0; found 1 = 1; found 2 = 1; found 3 = REFUSED");
        new Run(notes, "check 0 0 2; call 0 1 5 0 = PASSED; check 0 0 1; restart = UNFINISHED; found 0 = 1; found 1 = 2; check 0 0 1; "
                + "call 1 0 0 0 = UNFINISHED; found 3 = 2");
        new Run(notes, "check 0 0 2; call 0 1 5 0 = PASSED; check 0 5 1 = REFUSED; call 0 1 5 0; when; answer 0 1; found 1 = 2; "
                + "found 3 = 2; found 4 = REFUSED");
        // The NUMBER stays, though the CALL itself was taken back before the row was used again.
        new Run(TWO, "call 0 1 7 0; call 0 1 5 0; check 0 0 1; call 0 1 5 0 = PASSED; found 2 = 1; call 0 1 6 0; found 2 = 1");
    }

    private static String catches(int many) {
        StringBuilder text = new StringBuilder(TWO);
        for (int i = 0; i < many; i++) {
            text.append("call 0 1 ").append(100 + i).append(" 0; check 0 4 1; matcher 7 0; call 0 1 0 0 = PASSED; ");
        }
        return text.toString();
    }

    /** "The k-th int CAUGHT before the latest (0 that one, of the latest 12); REFUSED if there is none". */
    private static void caughtFromTheFirstToTheLast() {
        for (int many = 0; many <= 26; many++) {
            int kept = Math.min(many, 12);
            Run run = new Run(catches(many), "count 7 = " + many);
            for (int k = 0; k < kept; k++) {
                run.go("caught " + k + " = " + (100 + many - 1 - k));
            }
            run.go("caught " + kept + " = REFUSED; caught " + (kept + 1) + " = REFUSED; caught 12 = REFUSED; caught 13 = REFUSED; "
                    + "caught 24 = REFUSED");
            refused(catches(many), "caught N");
        }
    }

    /** Many at once, too: only the latest 12 can be asked for. */
    private static void caughtOfTheLatestTwelve() {
        for (int calls : new int[] {5, 6, 7, 12, 13, 20, 40}) {
            Run run = new Run(TWO);
            for (int i = 0; i < calls; i++) {
                run.go("call 0 2 " + 2 * i + " " + (2 * i + 1));
            }
            run.go("check 0 0 " + calls + "; 2 * matcher 7 0; call 0 2 0 0 = PASSED; count 7 = " + 2 * calls);
            for (int k = 0; k < 12; k++) {
                run.go("caught " + k + " = " + (k < 2 * calls ? 2 * calls - 1 - k : -1));
            }
            run.go("caught 12 = REFUSED; caught " + (2 * calls - 1) + " = " + (calls <= 6 ? 0 : -1));
        }
    }

    /** "(a value may be -1, too: ask count first)". */
    private static void aValueMayBeMinusOne() {
        new Run(TWO, "call 0 2 -1 MIN; check 0 0 1; 2 * matcher 7 0; call 0 2 0 0 = PASSED; count 7 = 2; caught 0 = MIN; caught 1 = -1; "
                + "caught 2 = REFUSED");
        new Run(TWO, "call 0 2 MAX -1; check 0 0 1; 2 * matcher 7 0; call 0 2 0 0 = PASSED; count 7 = 2; caught 0 = -1; caught 1 = MAX");
    }

    /** "What 0 ... 9", "REFUSED for others". */
    private static void countWhatIsAsked() {
        for (String before : new String[] {"restart", TWO, TWO + "answer 0 1; told 0; matcher 0 0", TWO + "40 * call 0 0 0 0"}) {
            refused(before, "count N");
            new Run(before, "count 10 = REFUSED; count 11 = REFUSED");
        }
        // All ten at once, each with a value of its own.
        new Run("define 0 1 1 true; 6 * make 0 0; when; 2 * when; 4 * call 0 1 5 0; check 0 4 2; matcher 7 0; call 0 1 0 0",
                tellings(7), "call 0 1 0 0; 3 * answer 0 1; told 0; 5 * matcher 0 0",
                "count 0 = 6; count 1 = 5; count 2 = 7; count 3 = 6; count 4 = 5; count 5 = 2; count 6 = 3; count 7 = 2; count 8 = 1; "
                + "count 9 = 3");
    }

    private static void countStandInsAndNotes() {
        Run run = new Run();
        for (int i = 0; i < 6; i++) {
            run.go("count 0 = " + i + "; make 0 0");
        }
        run.go("count 0 = 6; make 0 0 = FULL; count 0 = 6");
        for (int i = 0; i < 40; i++) {
            run.go("count 1 = " + i + "; call 0 0 0 0");
        }
        run.go("count 1 = 40; call 0 0 0 0 = FULL; count 1 = 40; when; count 1 = 39");
    }

    /** "2: TELLINGS made": by when() as soon as it was called, by told() when the CALL has come. */
    private static void countTellings() {
        new Run(TWO, "call 0 0 0 0; count 2 = 0; when; count 2 = 1; restart = UNFINISHED; count 2 = 1; answer 0 1; count 2 = 1; told 0; "
                + "count 2 = 1; matcher 0 0; count 2 = 1; call 0 1 0 0; count 2 = 2");
        new Run(TWO, tellings(16), "count 2 = 16; answer 0 1; told 0; call 0 0 0 0 = FULL; count 2 = 16");
    }

    /** "3: of these with ANSWERS that never ANSWERED". */
    private static void countTellingsThatNeverAnswered() {
        new Run(TWO, "call 0 1 5 0; when; count 3 = 0; answer 0 1; count 3 = 1; answer 0 2; count 3 = 1; call 0 1 5 0; count 3 = 0; "
                + "call 0 1 5 0; count 3 = 0");
        new Run(TWO, "call 0 1 5 0; when; restart = UNFINISHED; count 3 = 0; count 2 = 1");
        // One that ANSWERED a CALL that was taken back has ANSWERED.
        new Run(TWO, "answer 0 1; told 0; call 0 1 5 0; count 3 = 1; call 0 1 5 0; when; count 3 = 0; answer 0 2; count 3 = 1");
        Run run = new Run(TWO, tellings(16), "count 3 = 16");
        for (int i = 0; i < 16; i++) {
            run.go("call 0 1 " + i + " 0 = " + i + "; count 3 = " + (15 - i));
        }
    }

    /** "7: ints CAUGHT so far": all of them, not only those that can be asked for. */
    private static void countCaught() {
        new Run(TWO, "40 * call 0 2 1 2; check 0 0 40; 2 * matcher 7 0; call 0 2 0 0; count 7 = 80; check 0 0 40; 2 * matcher 7 0; "
                + "call 0 2 0 0; count 7 = 160");
        new Run(catches(11), "count 7 = 11");
        new Run(catches(12), "count 7 = 12");
        new Run(catches(13), "count 7 = 13");
    }
}
