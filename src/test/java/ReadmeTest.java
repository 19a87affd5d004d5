import java.io.IOException;
import java.nio.charset.StandardCharsets;
import java.nio.file.Files;
import java.nio.file.Path;
import java.util.LinkedHashMap;
import java.util.List;
import java.util.Map;
import java.util.regex.Matcher;
import java.util.regex.Pattern;
import java.util.stream.Collectors;
import java.util.stream.Stream;

/** README.md says what is so: its example answers what it tells, and it names every call and every test. */
public final class ReadmeTest {
    private static final Path README = Path.of("README.md");
    private static final Path DOCUMENT = Path.of("../shared/DOC.md");
    private static final Path TESTS = Path.of("src/test/java");
    private static final Path THIS = TESTS.resolve("ReadmeTest.java");

    private final Checks checks = new Checks();
    private final String readme;

    private ReadmeTest() throws IOException {
        readme = Files.readString(README, StandardCharsets.UTF_8);
    }

    public static void main(String[] args) throws IOException {
        ReadmeTest test = new ReadmeTest();
        test.exampleIsTheOneBelow();
        test.exampleAnswersWhatItTells();
        test.everyCallIsNamed();
        test.everyTestIsNamed();
        test.checks.close();
    }

    /** The statements of README's example to the letter, but for what README says behind them. */
    private static Map<String, Integer> example() {
        // the example
        KanbanLoop line = new KanbanLoop();
        int first = line.stage(3, 4, 1, 1, true);
        int second = line.stage(2, 6, 3, 2, true);
        int way = line.way(second, 2);
        int cards = line.issueConveyance(second);
        line.demand(2);
        int taken = line.step(10);
        int backlog = line.backlog();
        int shortSteps = line.shortSteps();
        int needed = line.needed(second, 10);
        // its end
        Map<String, Integer> answers = new LinkedHashMap<>();
        answers.put("first", first);
        answers.put("second", second);
        answers.put("way", way);
        answers.put("cards", cards);
        answers.put("taken", taken);
        answers.put("backlog", backlog);
        answers.put("shortSteps", shortSteps);
        answers.put("needed", needed);
        return answers;
    }

    private void exampleIsTheOneBelow() throws IOException {
        String source = Files.readString(THIS, StandardCharsets.UTF_8);
        String run = between(source, "// the example\n", "// its end\n");
        checks.same("README's example", statements(block()), statements(run));
    }

    private void exampleAnswersWhatItTells() {
        Map<String, Integer> told = new LinkedHashMap<>();
        Matcher answer = Pattern.compile("(?m)^int (\\w+) = .*; +// (\\d+): ").matcher(block());
        while (answer.find()) {
            told.put(answer.group(1), Integer.valueOf(answer.group(2)));
        }
        checks.same("the answers that README tells", told.toString(), example().toString());
    }

    private String block() {
        return between(readme, "```java\n", "```\n");
    }

    private static String between(String text, String begin, String end) {
        int from = text.indexOf(begin);
        int to = from < 0 ? -1 : text.indexOf(end, from + begin.length());
        return to < 0 ? "" : text.substring(from + begin.length(), to);
    }

    private static String statements(String code) {
        return code.lines().map(line -> line.replaceAll("//.*", "").strip()).filter(line -> !line.isEmpty())
                .collect(Collectors.joining("\n"));
    }

    private void everyCallIsNamed() throws IOException {
        String document = Files.readString(DOCUMENT, StandardCharsets.UTF_8);
        Matcher face = Pattern.compile("(?m)^    public \\w+ (\\w+)\\((.*?)\\)").matcher(document);
        int calls = 0;
        while (face.find()) {
            String call = face.group(1) + "(" + face.group(2).replaceAll("\\w+ (\\w+)", "$1") + ")";
            checks.isTrue("README names " + call, readme.contains("`" + call + "`"));
            calls++;
        }
        checks.same("the number of calls", calls, 29);
    }

    private void everyTestIsNamed() throws IOException {
        try (Stream<Path> files = Files.list(TESTS)) {
            List<String> names = files.map(file -> file.getFileName().toString())
                    .filter(name -> name.endsWith("Test.java")).map(name -> name.replace(".java", "")).toList();
            for (String name : names) {
                checks.isTrue("README names " + name, readme.contains("- `" + name + "`: "));
            }
            checks.isTrue("there are tests", !names.isEmpty());
        }
        checks.isTrue("README names .ci/run", readme.contains("`bash .ci/run`"));
    }
}
