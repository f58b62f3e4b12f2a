/** Holds answers against those that are due, and ends a test with exit code 1 if one was not. */
final class Due {
    private static int wrong = 0;
    private static int asked = 0;

    private Due() {
    }

    /** The answer that is due comes first, so that the rows of a run stand below one another. */
    static void due(long want, long got) {
        asked++;
        if (got != want) {
            wrong++;
            System.out.println(caller() + " answered " + got + ", due is " + want);
        }
    }

    static void end() {
        if (asked == 0 || wrong != 0) {
            System.out.println(wrong + " of " + asked + " answers are not as due");
            System.exit(1);
        }
    }

    private static String caller() {
        for (StackTraceElement at : new Throwable().getStackTrace()) {
            if (!at.getClassName().equals("Due")) {
                return at.getFileName() + ":" + at.getLineNumber();
            }
        }
        return "?";
    }
}
