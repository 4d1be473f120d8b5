import java.io.IOException;
import java.nio.file.Files;
import java.nio.file.Path;
import java.util.List;
import java.util.regex.Matcher;
import java.util.regex.Pattern;

/**
 * What can be seen in the program's lines of LANGUAGE.md's rules 2, 4, 5, 6, 11 and 12; the rest of them is for a reader.
 * That objects are made in constructors alone is this program's own way to keep to the one room that all calls live in.
 */
public final class LanguageTest {
    private static final Path PROGRAM = Path.of("src/main/java/CaskGauge.java");
    private static final int MOST_LINES = 60;
    private static final int MOST_PARAMETERS = 7;
    private static final Pattern OUTSIDE = Pattern.compile("\\b(package|finally|assert|synchronized|throws|Thread|Random|Object"
        + "|\\w+Exact|hashCode|getMessage)\\b|->|::|\\bstatic \\{");
    private static final Pattern METHOD = Pattern.compile("^( +)[\\w ]*\\b\\w+(\\[\\])?\\s?\\w*\\(([^()]*)\\) \\{$");
    private static final Pattern CONSTRUCTOR = Pattern.compile("^ +(public )?[A-Z]\\w*\\([^()]*\\) \\{$");
    private static final Pattern STATEMENT = Pattern.compile("^ +(\\} else )?(if|for|while|switch|do)\\b.*");

    public static void main(String[] args) throws IOException {
        List<String> lines = Files.readAllLines(PROGRAM);
        Check.sentence("LANGUAGE.md 4, 6: nothing outside what is listed");
        for (String line : lines) {
            String code = line.matches(" *(/\\*\\*|\\*|//).*") ? "" : line.replaceAll("//.*|/\\*\\*.*\\*/", "");
            Check.hold("no '" + OUTSIDE + "' in: " + line, !OUTSIDE.matcher(code).find());
        }
        methods(lines);
        Check.end("language");
    }

    private static void methods(List<String> lines) {
        Check.sentence("LANGUAGE.md 11, 12: short methods, few parameters, objects made in constructors alone");
        int methods = 0;
        int at = 0;
        while (at < lines.size()) {
            Matcher head = METHOD.matcher(lines.get(at));
            if (!head.matches() || STATEMENT.matcher(lines.get(at)).matches()) {
                Check.hold("no object is made in: " + lines.get(at), !makesObject(lines.get(at)));
                at++;
                continue;
            }
            methods++;
            int end = at + 1;
            while (!lines.get(end).equals(head.group(1) + "}")) {
                boolean made = makesObject(lines.get(end));
                Check.hold("no object is made in: " + lines.get(end), !made || CONSTRUCTOR.matcher(lines.get(at)).matches());
                end++;
            }
            Check.hold("not longer than " + MOST_LINES + ": " + lines.get(at), end - at + 1 <= MOST_LINES);
            Check.hold("not too many parameters: " + lines.get(at), head.group(3).split(",").length <= MOST_PARAMETERS);
            at = end + 1;
        }
        Check.hold("methods were found: " + methods, methods > 60);
    }

    private static boolean makesObject(String line) {
        return line.matches(".*\\bnew [A-Za-z].*") && !line.matches(" *(/\\*\\*|\\*|//).*");
    }
}
