import java.io.IOException;
import java.nio.file.Files;
import java.nio.file.Path;
import java.util.ArrayList;
import java.util.List;
import java.util.regex.Matcher;
import java.util.regex.Pattern;
import java.util.stream.Collectors;
import java.util.stream.Stream;

/** README.md: its examples answer as it says, and it names every call and every test. */
public final class ReadmeTest extends Bounds {
    private static final Pattern TEXT = Pattern.compile("String text = \"([^\"]*)\";.*");
    private static final Pattern LETTER = Pattern.compile("x\\.feed\\('(.)'\\);\\s+// (-?\\d+): .*");
    private static final Pattern CALL = Pattern.compile("x\\.(\\w+\\([^()]*\\));\\s+// (-?\\d+): .*");

    /** All examples are one object's calls, in the order of the page. */
    private static void examples(List<String> page) {
        List<Object> calls = new ArrayList<>();
        for (String line : page) {
            Matcher text = TEXT.matcher(line.trim());
            Matcher letter = LETTER.matcher(line.trim());
            Matcher call = CALL.matcher(line.trim());
            if (text.matches()) {
                for (int i = 0; i < text.group(1).length(); i++) {
                    calls.add("feed(" + (int) text.group(1).charAt(i) + ")");
                    calls.add(i + 1);
                }
            } else if (letter.matches()) {
                calls.add("feed(" + (int) letter.group(1).charAt(0) + ")");
                calls.add(Long.parseLong(letter.group(2)));
            } else if (call.matches()) {
                calls.add(call.group(1));
                calls.add(Long.parseLong(call.group(2)));
            } else {
                due("no example, but begins so: " + line, line.startsWith("x.") ? 1 : 0, 0);
            }
        }
        due("there are examples", calls.size() > 2 * 40 ? 1 : 0, 1);
        run(calls.toArray());
    }

    private static void names(String page, String document) throws IOException {
        Matcher call = Pattern.compile("    public \\w+ (\\w+)\\(").matcher(document);
        while (call.find()) {
            due("the page names the call " + call.group(1), page.contains("`" + call.group(1) + "`") ? 1 : 0, 1);
        }
        try (Stream<Path> files = Files.list(Path.of("src/test/java"))) {
            for (Path file : files.collect(Collectors.toList())) {
                String name = file.getFileName().toString().replace(".java", "");
                due("the page names " + name, page.contains("`" + name) ? 1 : 0, 1);
            }
        }
        due("the page tells how all tests are run", page.contains("\n.ci/run\n") ? 1 : 0, 1);
    }

    public static void main(String[] args) throws IOException {
        Path page = Path.of("README.md");
        examples(Files.readAllLines(page));
        names(Files.readString(page), Files.readString(Path.of("../shared/DOC.md")));
        finish("ReadmeTest");
    }
}
