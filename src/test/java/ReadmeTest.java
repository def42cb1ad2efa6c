import java.io.IOException;
import java.nio.file.Files;
import java.nio.file.Path;
import java.util.Arrays;
import java.util.List;
import java.util.Set;
import java.util.TreeSet;
import java.util.regex.Matcher;
import java.util.regex.Pattern;

/** README.md shows every call of the face, and the answers that it tells are the ones given. */
public final class ReadmeTest {
    private static final Pattern SHOWN = Pattern.compile("floats\\.(\\w+)\\(([^)]*)\\);\\s*// ([^:]+): .+");
    private static final String THROWS = "throws IllegalArgumentException";
    private static final Set<String> CALLS =
        Set.of("format", "reckon", "change", "least", "compare", "is", "from", "ofWhole", "toWhole");

    public static void main(String[] args) throws IOException {
        Check check = new Check();
        List<String> lines = Files.readAllLines(Path.of("README.md"));
        check.sentence("README.md: a call of its example answers what stands behind it");
        Set<String> shown = examples(check, lines);
        check.sentence("README.md: its example shows every call");
        check.due(true, shown.equals(CALLS), "shown are " + shown);
        check.sentence("README.md: it tells how the tests are run");
        check.due(true, lines.contains("    .ci/run"), ".ci/run");
        check.end();
    }

    private static Set<String> examples(Check check, List<String> lines) {
        Set<String> shown = new TreeSet<>();
        Run run = new Run(check);
        for (String line : lines) {
            if (line.startsWith("floats.")) {
                Matcher parts = SHOWN.matcher(line);
                boolean told = parts.matches();
                check.due(true, told, "a call and its answer: " + line);
                if (told) {
                    shown.add(parts.group(1));
                    ask(run, parts.group(1), numbers(parts.group(2)), parts.group(3));
                }
            }
        }
        return shown;
    }

    private static void ask(Run run, String name, int[] arguments, String told) {
        if (told.equals(THROWS)) {
            run.refuses(name, arguments);
        } else {
            run.answers(number(told), name, arguments);
        }
    }

    private static int[] numbers(String arguments) {
        return Arrays.stream(arguments.split(", ")).mapToInt(ReadmeTest::number).toArray();
    }

    private static int number(String written) {
        switch (written) {
            case "true":
                return 1;
            case "false":
                return 0;
            default:
                return Integer.decode(written);
        }
    }
}
