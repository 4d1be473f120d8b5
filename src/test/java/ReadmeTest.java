import java.io.IOException;
import java.nio.file.Files;
import java.nio.file.Path;
import java.util.Arrays;
import java.util.List;
import java.util.regex.Matcher;
import java.util.regex.Pattern;
import java.util.stream.Stream;

/** What README.md shows is so: each call of its example answers as it says, and each call and test has its words there. */
public final class ReadmeTest {
    private static final Path README = Path.of("README.md");
    private static final Path TESTS = Path.of("src/test/java");
    private static final Pattern TEXT = Pattern.compile(" +for \\(char letter : \"([^\"]*)\"\\.toCharArray\\(\\)\\) \\{");
    private static final Pattern CALL = Pattern.compile(" +gauge\\.(\\w+)\\(([-0-9, ]*)\\); +// (-?\\d+)(, [A-Z]+)?: .*");

    public static void main(String[] args) throws IOException {
        List<String> lines = Files.readAllLines(README);
        example(lines);
        names(String.join("\n", lines));
        Check.end("readme");
    }

    private static void example(List<String> lines) {
        Check.sentence("README.md: the example's answers");
        CaskGauge gauge = new CaskGauge();
        int calls = 0;
        for (String line : lines) {
            Matcher text = TEXT.matcher(line);
            Matcher call = CALL.matcher(line);
            if (text.matches()) {
                Check.type(gauge, text.group(1));
            } else if (call.matches()) {
                calls++;
                int[] numbers = Stream.of(call.group(2).split(", ")).filter(part -> !part.isEmpty())
                    .mapToInt(Integer::parseInt).toArray();
                Check.due(gauge, Integer.parseInt(call.group(3)), call.group(1), numbers);
            } else {
                Check.hold("a call with its answer: " + line, !line.matches(" +gauge\\..*//.*"));
            }
        }
        Check.hold("calls were found: " + calls, calls >= 10);
    }

    private static void names(String readme) throws IOException {
        Check.sentence("README.md: every call, every test, how the tests are run");
        Check.hold(".ci/run is named", readme.contains(".ci/run"));
        Arrays.stream(CaskGauge.class.getMethods()).filter(method -> method.getDeclaringClass() == CaskGauge.class)
            .forEach(method -> Check.hold(method.getName() + " is named", readme.contains("`" + method.getName() + "(")));
        try (Stream<Path> files = Files.list(TESTS)) {
            files.map(file -> file.getFileName().toString().replace(".java", ""))
                .forEach(name -> Check.hold(name + " is named", readme.contains("`" + name + "`")));
        }
    }
}
