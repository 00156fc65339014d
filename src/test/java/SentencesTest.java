import java.io.IOException;
import java.nio.file.Files;
import java.nio.file.Path;
import java.util.regex.Matcher;
import java.util.regex.Pattern;

/** The tests that src/test/SENTENCES.md names are there, and it names some for each promise. */
public final class SentencesTest {
    private static final Path TABLE = Path.of("src/test/SENTENCES.md");
    private static final String HEADING_OF_PROMISES = "## Promises";
    private static final Pattern TEST = Pattern.compile("`(\\w+)\\.(\\w+)`");
    private static final int PROMISES = 33;

    public static void main(String[] args) throws IOException {
        boolean isOfPromises = false;
        int promises = 0;
        for (String row : Files.readAllLines(TABLE)) {
            isOfPromises |= row.equals(HEADING_OF_PROMISES);
            int named = namedIn(row);
            if (isOfPromises && named > 0) {
                promises++;
                Check.due("in its order: " + row, row.startsWith("| " + promises + " "), true);
            }
        }
        Check.due("promises that name their tests", promises, PROMISES);
        Check.end();
    }

    private static int namedIn(String row) throws IOException {
        int count = 0;
        Matcher test = TEST.matcher(row);
        while (test.find()) {
            Check.due(test.group() + " is there", isThere(test.group(1), test.group(2)), true);
            count++;
        }
        return count;
    }

    private static boolean isThere(String name, String method) throws IOException {
        Path file = Path.of("src/test/java/" + name + ".java");
        return Files.exists(file) && Pattern.compile(" static \\S+ " + method + "\\(").matcher(Files.readString(file)).find();
    }
}
