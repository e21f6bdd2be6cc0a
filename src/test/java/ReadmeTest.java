import java.io.IOException;
import java.nio.file.Files;
import java.nio.file.Path;
import java.util.ArrayList;
import java.util.HashMap;
import java.util.List;
import java.util.Map;
import java.util.regex.Matcher;
import java.util.regex.Pattern;

/** README.md's example: it is the code below, line by line, and answers what its comments tell; run from the project's directory. */
public final class ReadmeTest {
    private static final Due due = new Due();
    private static final Path README = Path.of("README.md");
    private static final Path THIS = Path.of("src/test/java/ReadmeTest.java");
    private static final Pattern TOLD_ANSWER = Pattern.compile("(?:int|long) (\\w+) = x\\..*// (-?\\d+)\\b.*");

    public static void main(String[] args) throws IOException {
        due.part("README.md");
        List<String> told = codeBetween(Files.readAllLines(README), "```java", "```");
        List<String> run = codeBetween(Files.readAllLines(THIS), "// the example", "// its end");
        due.holds("an example", told.size() > 10);
        due.holds("the example being the one below, not " + told, told.equals(run));
        example(toldAnswers(Files.readAllLines(README)));
        due.end();
    }

    private static void example(Map<String, Long> answers) {
        // the example
        StencilCompiler x = new StencilCompiler(6);
        for (int i = 0; i < 6; i++) {
            x.input(i, i + 1);
        }
        x.stage(0, 0);
        x.tap(0, -1, -1, 1);
        x.tap(0, -1, 0, 2);
        x.tap(0, -1, 1, 1);
        x.stage(1, 2);
        x.tap(1, 0, -1, 1);
        x.tap(1, 0, 1, 1);
        x.output(1, 6);
        x.mode(0, 1);
        x.tile(4);
        int work = x.compile();
        int room = x.count(2);
        int first = x.region(0, false);
        int last = x.region(0, true);
        int tiles = x.run();
        long value = x.cell(5);
        long same = x.at(1, 5);
        // its end
        Map<String, Long> got = Map.of("work", (long) work, "room", (long) room, "first", (long) first,
            "last", (long) last, "tiles", (long) tiles, "value", value, "same", same);
        due.holds("answers " + got + " as told, not " + answers, got.equals(answers));
        due.is("work", work, 14);
        due.is("value", value, 22);
    }

    /** The numbers that start the comments behind the example's answers. */
    private static Map<String, Long> toldAnswers(List<String> lines) {
        Map<String, Long> answers = new HashMap<>();
        for (String line : lines) {
            Matcher matcher = TOLD_ANSWER.matcher(line);
            if (matcher.matches()) {
                answers.put(matcher.group(1), Long.valueOf(matcher.group(2)));
            }
        }
        return answers;
    }

    /** The lines between two marks, without comments and indentation. */
    private static List<String> codeBetween(List<String> lines, String from, String to) {
        List<String> code = new ArrayList<>();
        boolean inside = false;
        for (String line : lines) {
            String bare = line.strip();
            if (inside && bare.equals(to)) {
                return code;
            }
            if (inside) {
                code.add(bare.replaceAll("//.*", "").strip());
            }
            inside = inside || bare.equals(from);
        }
        return code;
    }
}
