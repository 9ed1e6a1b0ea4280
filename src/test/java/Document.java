import java.io.IOException;
import java.io.UncheckedIOException;
import java.nio.file.Files;
import java.nio.file.Path;
import java.util.ArrayList;
import java.util.LinkedHashMap;
import java.util.List;
import java.util.Map;

/** The sentences of ../shared/DOC.md by their headings; "Promise 3: buyLinen" is "Promise 3" here. */
final class Document {
    private static final Path FILE = Path.of("..", "shared", "DOC.md");
    private static final String HEADING = "## ";

    private Document() {
    }

    static Map<String, List<String>> sentences() {
        Map<String, List<String>> all = new LinkedHashMap<>();
        List<String> current = new ArrayList<>();
        for (String line : lines()) {
            if (line.startsWith(HEADING)) {
                current = new ArrayList<>();
                all.put(line.substring(HEADING.length()).replaceFirst("^(Promise \\d+):.*", "$1"), current);
            } else {
                addSentences(line.strip(), current);
            }
        }
        return all;
    }

    private static List<String> lines() {
        try {
            return Files.readAllLines(FILE);
        } catch (IOException e) {
            throw new UncheckedIOException(e);
        }
    }

    private static void addSentences(String line, List<String> to) {
        for (String sentence : line.split("(?<=\\.)\\s+(?=[A-Z])")) {
            // A single word in front of a paragraph ("Coming.") is its title.
            if (sentence.contains(" ")) {
                to.add(sentence);
            }
        }
    }
}
