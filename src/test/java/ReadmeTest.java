import java.io.IOException;
import java.nio.file.Files;
import java.nio.file.Path;
import java.util.regex.Matcher;
import java.util.regex.Pattern;

/** README.md: every call that it shows has the answer that stands behind it, and nothing is left out. */
public final class ReadmeTest {
    private static final Pattern BLOCK = Pattern.compile("(?s)```java\n(.*?)```");
    private static final Pattern CALL = Pattern.compile("x\\.(\\w+)\\((.*?)\\); +// ([^:]+)(:.*)?");

    private static final String[] SHOWN = {"define", "make", "matcher", "call", "when", "answer", "told", "check",
        "noMore", "restart", "noted", "telling", "found", "caught", "count", "// REFUSED", "// FULL", "// UNFINISHED",
        "// MISPLACED", "// WRONG", "// THROWN + ", "// UNTOLD", "// PASSED", "// BROKEN", "// ERROR + "};

    public static void main(String[] args) throws IOException {
        String text = Files.readString(Path.of("README.md"));
        StringBuilder shown = new StringBuilder();
        Matcher block = BLOCK.matcher(text);
        while (block.find()) {
            play(block.group(1));
            shown.append(block.group(1));
        }
        for (String one : SHOWN) {
            String as = one.startsWith("//") ? one : "x." + one + "(";
            Due.due(1, shown.indexOf(as) >= 0 ? 1 : 0, "README.md shows", one);
        }
        Due.due(1, text.contains(".ci/run") ? 1 : 0, "README.md says how to run the tests");
        Due.end();
    }

    private static void play(String block) {
        String[] lines = block.split("\n");
        Due.due(1, lines[0].equals("StandIns x = new StandIns();") ? 1 : 0, "a run on a new object:", lines[0]);
        Run run = new Run();
        for (int i = 1; i < lines.length; i++) {
            if (!lines[i].isBlank()) {
                playLine(run, lines[i]);
            }
        }
    }

    private static void playLine(Run run, String line) {
        Matcher at = CALL.matcher(line);
        boolean told = at.matches();
        Due.due(1, told ? 1 : 0, "a call with its answer:", line);
        if (told) {
            run.go(at.group(1) + " " + at.group(2).replace(",", "") + " = " + answer(at.group(1), at.group(3), line));
        }
    }

    /** Run takes REFUSED and its like behind a call for ERROR + that; the reader must find it written out. */
    private static String answer(String name, String answer, String line) {
        boolean error = answer.startsWith("ERROR + ");
        boolean refusal = answer.matches("(ERROR \\+ )?(REFUSED|FULL|UNFINISHED|MISPLACED|WRONG)");
        Due.due(refusal && name.equals("call") ? 1 : 0, error ? 1 : 0, "ERROR + stands behind call alone:", line);
        return error ? answer.substring("ERROR + ".length()) : answer;
    }
}
