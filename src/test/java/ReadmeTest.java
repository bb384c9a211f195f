import java.io.IOException;
import java.nio.file.Files;
import java.nio.file.Path;
import java.util.TreeSet;
import java.util.regex.Matcher;
import java.util.regex.Pattern;

/** The examples of README.md answer what stands behind them there; run from the project's folder. */
public final class ReadmeTest {
    private static final Checks CHECKS = new Checks("ReadmeTest");
    private static final Pattern EXAMPLE = Pattern.compile("x\\.(\\w+\\([^()]*\\)); +// (-?\\d+)\\b.*");

    public static void main(String[] args) throws IOException {
        String page = Files.readString(Path.of("README.md"));
        examples(page);
        laws(page);
        namesEveryCall(page);
        CHECKS.end();
    }

    private static void examples(String page) {
        Run run = new Run(CHECKS, "README.md");
        int found = 0;
        for (String line : page.split("\n")) {
            if (line.contains("new FarHeights()")) {
                run = new Run(CHECKS, "README.md");
            }
            Matcher m = EXAMPLE.matcher(line);
            if (m.matches()) {
                run.then(m.group(1), Long.parseLong(m.group(2)));
                found++;
            } else {
                CHECKS.right(!line.startsWith("x."), "README.md: not an example with an answer: " + line);
            }
        }
        CHECKS.holds("README.md has examples", found > 30);
    }

    private static void laws(String page) {
        Matcher m = Pattern.compile("`law\\(x, \"([^\"]*)\"\\)` answers (-?\\d+)").matcher(page);
        int found = 0;
        while (m.find()) {
            new Run(CHECKS, "README.md").asksText(m.group(1), Long.parseLong(m.group(2)));
            found++;
        }
        CHECKS.holds("README.md has a law", found > 0);
    }

    private static void namesEveryCall(String page) {
        TreeSet<String> told = new TreeSet<>();
        for (String line : page.split("\n")) {
            Matcher m = Pattern.compile("`(\\w+)`").matcher(line.startsWith("| `") ? line : "");
            while (m.find()) {
                told.add(m.group(1));
            }
        }
        TreeSet<String> calls = new TreeSet<>();
        for (java.lang.reflect.Method m : FarHeights.class.getMethods()) {
            if (m.getDeclaringClass() == FarHeights.class) {
                calls.add(m.getName());
            }
        }
        CHECKS.right(told.equals(calls), "README.md tells of the calls " + told + ", there are " + calls);
    }
}
