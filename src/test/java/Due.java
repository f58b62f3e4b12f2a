/** Holds answers against those that are due, and ends a test with exit code 1 if one was not. */
final class Due {
    /** One fault may show in thousands of rows of a table; the first ones tell enough. */
    private static final int PRINTED = 20;

    private static int wrong = 0;
    private static int asked = 0;

    private Due() {
    }

    /**
     * The answer that is due comes first, so that the rows of a run stand below one another. What was run
     * is given as objects, since it is put into words only if it is told.
     */
    static void due(long want, long got, Object... run) {
        asked++;
        if (got != want) {
            wrong++;
            if (wrong <= PRINTED) {
                System.out.println(caller() + " " + words(run) + " answered " + got + ", due is " + want);
            }
        }
    }

    private static String words(Object[] run) {
        StringBuilder words = new StringBuilder();
        for (Object part : run) {
            words.append(part).append(' ');
        }
        return words.toString().strip();
    }

    static void end() {
        if (asked == 0 || wrong != 0) {
            System.out.println(wrong + " of " + asked + " answers are not as due");
            System.exit(1);
        }
    }

    private static String caller() {
        for (StackTraceElement at : new Throwable().getStackTrace()) {
            if (!at.getClassName().equals("Due") && !at.getClassName().startsWith("Run")) {
                return at.getFileName() + ":" + at.getLineNumber();
            }
        }
        return "?";
    }
}
