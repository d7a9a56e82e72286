import java.io.IOException;
import java.nio.file.Files;
import java.nio.file.Path;
import java.util.regex.Matcher;
import java.util.regex.Pattern;

/** The walk in README.md: each call there answers what stands behind it. */
public final class ReadmeTest {
    private static final Pattern CALL = Pattern.compile("x\\.(\\w+\\(.*?\\)); *// (-?\\d+)(:.*)?");

    public static void main(String[] args) throws IOException {
        Run run = new Run("README.md");
        int calls = 0;
        for (String line : Files.readAllLines(Path.of("README.md"))) {
            if (!line.startsWith("x.")) continue;
            Matcher m = CALL.matcher(line);
            if (!m.matches()) run.fail("not a call with its answer: " + line);
            else run.is(Integer.parseInt(m.group(2)), m.group(1).replace("L,", ","));
            calls++;
        }
        if (calls < 40) run.fail("too few calls: " + calls);
        Run.end("Readme");
    }
}
