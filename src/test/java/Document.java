import java.io.IOException;
import java.nio.charset.StandardCharsets;
import java.nio.file.Files;
import java.nio.file.Path;
import java.util.ArrayList;
import java.util.LinkedHashMap;
import java.util.List;
import java.util.Map;

/** The sentences of ../shared/DOC.md by their part ('Terms', 'Promise 1' ..), and which of them were quoted. */
final class Document {
    private static final Path FILE = Path.of("../shared/DOC.md");

    private final Map<String, Boolean> quoted = new LinkedHashMap<>();

    Document() throws IOException {
        String part = "";
        boolean inCode = false;
        for (String line : Files.readAllLines(FILE, StandardCharsets.UTF_8)) {
            if (line.startsWith("```")) {
                inCode = !inCode;
            } else if (line.startsWith("#")) {
                part = line.replaceAll("^#+ ", "").replaceAll("^(Promise \\d+):.*", "$1");
            } else if (!inCode && !line.isBlank()) {
                for (String sentence : sentences(line)) {
                    quoted.put(key(part, sentence), false);
                }
            }
        }
    }

    private static String[] sentences(String line) {
        String text = line.replaceAll("^(\\d+\\.|-) ", "").replaceAll("^`[^`]*\\([^`]*`: ", "");
        return text.split("(?:(?<=\\.)|(?<=\\.\\))) (?=[A-Z(])");
    }

    private static String key(String part, String sentence) {
        return part + ": " + sentence;
    }

    /** Whether the sentence stands in the part; it counts as quoted from then on. */
    boolean quote(String part, String sentence) {
        return quoted.replace(key(part, sentence), true) != null;
    }

    List<String> neverQuoted() {
        List<String> left = new ArrayList<>();
        quoted.forEach((sentence, wasQuoted) -> {
            if (!wasQuoted) {
                left.add(sentence);
            }
        });
        return left;
    }
}
