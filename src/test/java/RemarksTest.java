import java.io.IOException;
import java.nio.file.Files;
import java.nio.file.Path;
import java.util.ArrayList;
import java.util.LinkedHashMap;
import java.util.List;
import java.util.Map;
import java.util.TreeSet;
import java.util.regex.Matcher;
import java.util.regex.Pattern;
import java.util.stream.Stream;

/** Each test of a sentence says in a remark which one it holds: as it stands in the document, under that heading. */
public final class RemarksTest {
    private static final Path TESTS = Path.of("src/test/java");
    private static final Path DOCUMENT = Path.of("../shared/DOC.md");
    /** Those that go through no sentences: a model, any calls, the language, README.md, and this one. */
    private static final List<String> OTHERS =
            List.of("ModelTest", "AnyCallTest", "LanguageTest", "ReadmeTest", "RemarksTest");
    private static final Pattern TEST = Pattern.compile(
            "(?m)((?:^    //.*\\n)*)^    private static void (\\w+)\\(\\) (?:throws \\w+ )?\\{$");
    private static final Pattern REMARK = Pattern.compile(
            "^(Promise \\d+|Terms I{1,3}|Terms IV|The public face|What it is), \"(.+?)\": (.+)$");
    private static final int PROMISES = 57;
    private static final List<String> HEADINGS =
            List.of("What it is", "The public face", "Terms I", "Terms II", "Terms III", "Terms IV");

    public static void main(String[] args) throws IOException {
        Map<String, String> document = document();
        TreeSet<String> held = new TreeSet<>();
        for (Path path : tests()) {
            check(path, document, held);
        }
        for (int i = 1; i <= PROMISES; i++) {
            Check.due("Promise " + i + " is held by a test", held.contains("Promise " + i), true);
        }
        for (String heading : HEADINGS) {
            Check.due(heading + " is held by a test", held.contains(heading), true);
        }
        Check.end("RemarksTest");
    }

    private static List<Path> tests() throws IOException {
        List<Path> found = new ArrayList<>();
        try (Stream<Path> files = Files.list(TESTS)) {
            files.sorted().forEach(path -> {
                String name = nameOf(path);
                if (name.endsWith("Test") && !OTHERS.contains(name)) {
                    found.add(path);
                }
            });
        }
        return found;
    }

    private static String nameOf(Path path) {
        return path.getFileName().toString().replace(".java", "");
    }

    private static String inOneLine(String text) {
        return text.replaceAll("\\s+", " ");
    }

    /** What stands under each heading; the Terms part by their numbers. */
    private static Map<String, String> document() throws IOException {
        Map<String, String> parts = new LinkedHashMap<>();
        if (!Files.exists(DOCUMENT)) {
            System.out.println("RemarksTest: no " + DOCUMENT + ", remarks are not compared with it");
            return parts;
        }
        for (String part : Files.readString(DOCUMENT).split("(?m)^## ")) {
            String heading = part.lines().findFirst().orElse("").replaceAll("^(Promise \\d+):.*", "$1");
            if (heading.equals("Terms")) {
                for (String term : part.split("(?m)^(?=(?:I{1,3}|IV)\\. )")) {
                    parts.put("Terms " + term.replaceAll("(?s)\\..*", ""), inOneLine(term));
                }
            } else {
                parts.put(heading, inOneLine(part));
            }
        }
        return parts;
    }

    private static void check(Path path, Map<String, String> document, TreeSet<String> held) throws IOException {
        String source = Files.readString(path);
        String main = source.substring(source.indexOf("void main("), source.indexOf("Check.end("));
        Matcher test = TEST.matcher(source);
        int found = 0;
        while (test.find()) {
            found++;
            String name = nameOf(path) + "." + test.group(2);
            String remark = inOneLine(test.group(1).replaceAll("(?m)^    //", "")).strip();
            Matcher parts = REMARK.matcher(remark);
            Check.due(name + " is called", main.contains(" " + test.group(2) + "();"), true);
            Check.due(name + " has a remark", parts.matches(), true);
            if (parts.matches()) {
                held.add(parts.group(1));
                boolean stands = document.isEmpty()
                        || document.getOrDefault(parts.group(1), "").contains(parts.group(2));
                Check.due(name + ": " + parts.group(1) + " says \"" + parts.group(2) + "\"", stands, true);
            }
        }
        Check.due(nameOf(path) + " has tests", found > 0, true);
    }
}
