import java.io.File;
import java.io.IOException;
import java.lang.ProcessBuilder.Redirect;
import java.nio.file.Files;
import java.nio.file.Path;
import java.util.List;
import java.util.regex.Matcher;
import java.util.regex.Pattern;

/** The example of README.md compiles as it stands there, and prints what its remarks say. */
public final class ReadmeTest {
    private static final Pattern BLOCK = Pattern.compile("(?s)```java\n(.*?)```");
    private static final Pattern PRINTED = Pattern.compile("System\\.out\\.println\\((.*)\\); +// (-?\\w+)");
    private static final String CLASSES = System.getProperty("java.class.path");

    public static void main(String[] args) throws IOException, InterruptedException {
        Matcher block = BLOCK.matcher(Files.readString(Path.of("README.md")));
        boolean stands = block.find();
        Check.due("README.md has an example", stands, true);
        if (stands) {
            compare(block.group(1), printedBy(block.group(1)));
        }
        Check.end("ReadmeTest");
    }

    private static void compare(String example, List<String> printed) {
        Matcher due = PRINTED.matcher(example);
        int lines = 0;
        while (due.find()) {
            String got = lines < printed.size() ? printed.get(lines) : "nothing";
            Check.due(due.group(1) + " printed '" + got + "', as its remark in README.md says: " + due.group(2) + ":",
                    got.equals(due.group(2)), true);
            lines++;
        }
        Check.due("lines that README.md's example prints", printed.size(), lines);
    }

    private static List<String> printedBy(String example) throws IOException, InterruptedException {
        Path home = Files.createTempDirectory("readme");
        try {
            Path source = Files.writeString(home.resolve("Example.java"), example);
            run("javac", "-cp", CLASSES, "-d", home.toString(), source.toString());
            return run("java", "-cp", CLASSES + File.pathSeparator + home, "Example");
        } finally {
            Files.deleteIfExists(home.resolve("Example.java"));
            Files.deleteIfExists(home.resolve("Example.class"));
            Files.delete(home);
        }
    }

    private static List<String> run(String... command) throws IOException, InterruptedException {
        Process process = new ProcessBuilder(command).redirectError(Redirect.INHERIT).start();
        String printed = new String(process.getInputStream().readAllBytes());
        Check.due("README.md's example: exit code of " + command[0], process.waitFor(), 0);
        return printed.lines().toList();
    }
}
