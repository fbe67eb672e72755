import java.nio.file.Files;
import java.nio.file.Path;
import java.util.List;
import java.util.TreeSet;
import java.util.regex.Matcher;
import java.util.regex.Pattern;

/** SENTENCES.md names rows that are there: each of its names begins the name of a row of the edge tests. */
public final class SentencesTest {
    private static final Check CHECK = new Check();
    private static final Pattern NAME = Pattern.compile("`([^`]*)`");
    private static final int PROMISES = 45;

    public static void main(String[] args) throws Exception {
        PrintersEdgesTest.main(args);
        JobsEdgesTest.main(args);
        ReleasesEdgesTest.main(args);
        LogEdgesTest.main(args);
        LifeEdgesTest.main(args);
        List<String> lines = Files.readAllLines(Path.of("SENTENCES.md"));
        for (int promise = 1; promise <= PROMISES; promise++) {
            int number = promise;
            CHECK.same("promise " + number + " stands in SENTENCES.md", lines.stream()
                .filter(line -> line.startsWith("## Promise " + number + ":")).count(), 1L);
        }
        TreeSet<String> rows = new TreeSet<>(Edges.NAMES);
        for (String line : lines) {
            if (line.startsWith("| ")) {
                names(rows, line.split(" \\| ")[2]);
            }
        }
        CHECK.end("SentencesTest");
    }

    private static void names(TreeSet<String> rows, String cell) {
        Matcher name = NAME.matcher(cell);
        while (name.find()) {
            String first = rows.ceiling(name.group(1));
            CHECK.same("a row begins with " + name.group(1), first != null && first.startsWith(name.group(1)), true);
        }
    }
}
