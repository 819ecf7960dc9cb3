import java.io.IOException;
import java.nio.file.Files;
import java.nio.file.Path;
import java.util.Arrays;
import java.util.Set;
import java.util.TreeSet;
import java.util.regex.Matcher;
import java.util.regex.Pattern;

/** The calls in README.md answer what stands behind them; run from the folder of the project. */
public final class ReadmeTest {
    private static final Check c = new Check();
    private static final String NEW = "SundayVisits x = new SundayVisits();";
    private static final Pattern CALL = Pattern.compile("x\\.(\\w+)\\(([^)]*)\\); *// (-?\\d+)(:.*)?");
    private static final Pattern READ = Pattern.compile("read\\(x, \"([^\"]*)\"\\); *// (-?\\d+)(:.*)?");

    private final Set<String> called = new TreeSet<>();
    private SundayVisits x;

    public static void main(String[] args) throws IOException {
        new ReadmeTest().lines(Files.readString(Path.of("README.md")));
        c.end();
    }

    private void lines(String readme) {
        for (String line : readme.split("\n")) {
            if (line.equals(NEW)) {
                x = new SundayVisits();
            } else if (line.startsWith("x.")) {
                row(line);
            } else if (line.startsWith("read(")) {
                text(line);
            }
        }
        Set<String> left = new TreeSet<>(Calls.names());
        left.removeAll(called);
        if (!left.isEmpty()) {
            c.fail("README.md shows no call of " + left);
        }
    }

    private void row(String line) {
        Matcher m = CALL.matcher(line);
        if (!m.matches() || x == null) {
            c.fail("README.md tells no answer: " + line);
            return;
        }
        int[] a = Arrays.stream(m.group(2).split(",")).map(String::strip).filter(s -> !s.isEmpty())
            .mapToInt(Integer::decode).toArray();
        c.due("README.md: " + line, Calls.call(x, m.group(1), a), Long.parseLong(m.group(3)));
        namedFinding(line, Long.parseLong(m.group(3)));
        called.add(m.group(1));
    }

    private void text(String line) {
        Matcher m = READ.matcher(line);
        if (!m.matches() || x == null) {
            c.fail("README.md tells no answer: " + line);
            return;
        }
        x.wipe();
        c.due("README.md: " + line, Check.read(x, m.group(1)), Long.parseLong(m.group(2)));
    }

    /** A finding is told with its name, so that number and name go together. */
    private static void namedFinding(String line, long answer) {
        if (Script.isFinding(answer) && !line.contains(answer + ": " + Script.nameOf(answer))) {
            c.fail("README.md tells another finding: " + line);
        }
    }
}
