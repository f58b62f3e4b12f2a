import java.io.IOException;
import java.nio.file.Files;
import java.nio.file.Path;
import java.util.regex.Matcher;
import java.util.regex.Pattern;

/** The words and signs that LANGUAGE.md leaves out do not stand in the program. */
public final class LanguageTest {
    private static final String[] LEFT_OUT = {
        "\\b(import|package|throws?|try|catch|finally|synchronized|assert|volatile|native|yield)\\b",
        "->", "::", "@", "\\b(equals|hashCode|toString|ordinal)\\b", "\\b(float|double|Object|System)\\b",
        "\\bprotected\\b", "\\bstatic\\s*\\{", "\\w\\s*\\)\\s*new\\b"};

    public static void main(String[] args) throws IOException {
        String text = Files.readString(Path.of("src", "main", "java", "StandIns.java"));
        String code = text.replaceAll("(?s)/\\*.*?\\*/", "").replaceAll("//[^\n]*", "");
        for (String pattern : LEFT_OUT) {
            Matcher at = Pattern.compile(pattern).matcher(code);
            boolean there = at.find();
            if (there) {
                System.out.println("the program has: " + at.group());
            }
            Due.due(0, there ? 1 : 0);
        }
        methodsAreShort(text);
        Due.end();
    }

    private static void methodsAreShort(String text) {
        int since = 0;
        int line = 0;
        for (String row : text.split("\n")) {
            line++;
            if (row.isBlank()) {
                since = line;
            }
            Due.due(1, line - since <= 60 ? 1 : 0);
        }
    }
}
