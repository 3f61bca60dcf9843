import java.io.IOException;
import java.nio.file.Files;
import java.nio.file.Path;
import java.util.List;
import java.util.Set;
import java.util.TreeSet;
import java.util.regex.Matcher;
import java.util.regex.Pattern;
import java.util.stream.Collectors;
import java.util.stream.Stream;

/** What README.md shows and says holds for the class and for .ci/run as they are. */
public final class ReadmeTest {
    private static final Checks CHECKS = new Checks("ReadmeTest");
    private static final Path TESTS = Path.of("src/test/java");
    private static final Pattern CODE = Pattern.compile("```java\n(.*?)```", Pattern.DOTALL);
    private static final Pattern ASKED =
            Pattern.compile("(x\\.\\w+\\([^)]*\\)); *// (-?[0-9]+(?:\\.[0-9]+)?)\\b.*");

    public static void main(String[] args) throws IOException {
        example();
        String readme = Files.readString(Path.of("README.md"));
        exampleIsTheReadmes(readme);
        tablesNameEachTest(readme);
        CHECKS.finish();
    }

    private static void is(long answer, long due) {
        CHECKS.same("the example of README.md", answer, due);
    }

    private static void is(double answer, double due) {
        CHECKS.same("the example of README.md", answer, due);
    }

    private static void example() {
        byte[] text = ("chart twist row over knit rest row cable 2 front 1 knit rest;"
                + "piece scarf cast 5 gauge 20 by 28 work twist times 2;"
                + "piece cuff cast 8 gauge 20 by 28 work twist when done scarf;").getBytes();
        java.nio.ByteBuffer tape = java.nio.ByteBuffer.allocate(2000).put(text).flip().limit(2000);
        CableChart x = new CableChart();
        while (tape.position() < text.length) {
            x.feed(tape.getInt(), tape.getInt(), tape.getInt(), tape.getInt(), tape.getInt());
        }
        x.trim(text.length);
        is(x.teach(), 0);
        is(x.errorAt(), -1);
        is(x.count(1), 2);

        is(x.chart(0, 1, 0), -1);
        is(x.fits(0, 1), 1);
        is(x.needs(0), 2);
        is(x.would(0, 6, 2), 8);
        is(x.piece(0, 5), -1);

        is(x.knit(0), 0);
        is(x.piece(0, 1), 4);
        is(x.many(0, 4), 7);
        is(x.stitch(0, 1, 0, 0), 4);
        is(x.stitch(0, 1, 0, 1), 5);
        is(x.where(0, 5, 2), 1);
        is(x.crosses(0, 5, 1), 1);
        is(x.front(0), 0);
        is(x.wide(0, 2), 28);
        is(x.high(0), 14);
        is(x.mean(), 8.0);
        is(x.cast(0, 6), 5);
        is(x.digest(), -5229659186720637236L);
    }

    /** The lines of README.md stand above one behind the other, each with the answer it tells. */
    private static void exampleIsTheReadmes(String readme) throws IOException {
        String source = Files.readString(TESTS.resolve("ReadmeTest.java"));
        int at = source.indexOf("void example()");
        int answers = 0;
        Matcher code = CODE.matcher(readme);
        while (code.find()) {
            for (String line : code.group(1).strip().split("\n")) {
                Matcher asked = ASKED.matcher(line);
                String due = line.strip();
                if (asked.matches()) {
                    String sort = asked.group(1).equals("x.digest()") ? "L" : "";
                    due = "is(" + asked.group(1) + ", " + asked.group(2) + sort + ");";
                    answers++;
                }
                int next = source.indexOf(due, at);
                CHECKS.holds("README.md's line is tested: " + line, next >= at && at >= 0);
                at = Math.max(at, next);
            }
        }
        CHECKS.same("answers that README.md tells", answers, 21);
    }

    private static void tablesNameEachTest(String readme) throws IOException {
        Set<String> named = new TreeSet<>();
        Matcher row = Pattern.compile("(?m)^\\| `(\\w+)` \\|").matcher(readme);
        while (row.find()) {
            named.add(row.group(1));
        }
        try (Stream<Path> files = Files.list(TESTS)) {
            List<String> tests = files.map(file -> file.getFileName().toString())
                    .filter(name -> name.endsWith(".java"))
                    .map(name -> name.substring(0, name.length() - 5))
                    .sorted().collect(Collectors.toList());
            CHECKS.holds(tests + " are in the tables: " + named,
                    List.copyOf(named).equals(tests));
        }
    }
}
