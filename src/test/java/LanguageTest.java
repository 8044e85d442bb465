import java.io.IOException;
import java.nio.file.Files;
import java.nio.file.Path;
import java.util.List;
import java.util.regex.Matcher;
import java.util.regex.Pattern;

/** Those rules of ../shared/LANGUAGE.md that a look at the lines can test. */
public final class LanguageTest {
    private static final String[] NOT_THERE = {
        "->", "::", "\\btry\\b", "\\bcatch\\b", "\\bfinally\\b", "Exact\\(", "\\bsynchronized\\b", "\\bassert\\b",
        "\\bprotected\\b", "\\bpackage\\b", "System\\.(?!arraycopy)", "\\bstatic \\{", "\\bMath\\.(?!min|max|abs)",
        "\\bInteger\\.(?!bitCount)", "\\bhashCode\\b", "\\bwhile \\(true\\)", "for \\(;;\\)"};
    private static final int MOST_LINES = 60;
    private static final int MOST_CLASSES = 12;

    public static void main(String[] args) throws IOException {
        List<String> lines = Files.readAllLines(Path.of("src/main/java/GrudgeLoft.java"));
        String whole = String.join("\n", lines);
        for (String regex : NOT_THERE) {
            Check.due("'" + regex + "' stands there", Pattern.compile(regex).matcher(whole).find(), false);
        }
        Check.due("imports", count(whole, "(?m)^import "), 1);
        int classes = count(whole, "(?m)^ *(public |private )?(static )?final class ");
        Check.due("classes are some twelve", classes <= MOST_CLASSES, true);
        lengths(lines);
        names(whole);
        Check.end("LanguageTest");
    }

    private static int count(String whole, String regex) {
        Matcher matcher = Pattern.compile(regex).matcher(whole);
        int count = 0;
        while (matcher.find()) {
            count++;
        }
        return count;
    }

    private static void lengths(List<String> lines) {
        Pattern head = Pattern.compile("^( {4}| {8})[a-z].*\\) (throws \\w+ )?\\{$");
        for (int i = 0; i < lines.size(); i++) {
            Matcher matcher = head.matcher(lines.get(i));
            if (matcher.matches()) {
                int end = lines.subList(i, lines.size()).indexOf(matcher.group(1) + "}");
                Check.due("line " + (i + 1) + ": too long a method", end > MOST_LINES, false);
            }
        }
    }

    /** No method but the face's bears a name of the face. */
    private static void names(String whole) {
        Matcher matcher = Pattern.compile("(?m)^    public \\w+ (\\w+)\\(").matcher(whole);
        int found = 0;
        while (matcher.find()) {
            found++;
            String again = "(?m)^ +(private |static )*(int|long|boolean|void) " + matcher.group(1) + "\\(";
            Check.due("a second " + matcher.group(1), count(whole, again), 0);
        }
        Check.due("methods of the face", found, 56);
    }
}
