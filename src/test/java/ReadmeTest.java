import java.io.IOException;
import java.nio.file.Files;
import java.nio.file.Path;
import java.util.HashMap;
import java.util.Map;
import java.util.regex.Matcher;
import java.util.regex.Pattern;

/** The rows of calls in README.md answer what their remarks say. It is run from the project's root. */
public final class ReadmeTest {
    private static final Pattern ROW =
            Pattern.compile("(?:int (\\w+) = )?yard\\.(\\w+)\\((.*)\\); +// (.*)");
    private static final Pattern ANSWER = Pattern.compile("(-?\\d+|true|false): .*");

    private static final Due DUE = new Due();
    private static final Map<String, String> NAMES = new HashMap<>();

    /** A row's call as a text, with the numbers that its names stand for. */
    private static String callOf(Matcher row) {
        StringBuilder call = new StringBuilder(row.group(2));
        for (String word : row.group(3).split(", *")) {
            if (!word.isEmpty()) {
                call.append(' ').append(NAMES.getOrDefault(word, word));
            }
        }
        return call.toString();
    }

    private static String dueOf(Matcher row) {
        Matcher remark = ANSWER.matcher(row.group(4));
        if (!remark.matches()) {
            return "0";
        }
        return remark.group(1).replace("true", "1").replace("false", "0");
    }

    public static void main(String[] args) throws IOException {
        PileLifts yard = new PileLifts();
        int rows = 0;
        for (String line : Files.readAllLines(Path.of("README.md"))) {
            Matcher row = ROW.matcher(line);
            if (row.matches()) {
                rows++;
                String got = Calls.answer(yard, callOf(row));
                DUE.is("README.md: " + line, got, dueOf(row));
                if (row.group(1) != null) {
                    NAMES.put(row.group(1), got);
                }
            }
        }
        DUE.is("README.md has rows of calls", rows > 0 ? "some" : "none", "some");
        DUE.end();
    }
}
