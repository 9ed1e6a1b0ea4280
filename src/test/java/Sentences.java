import java.util.HashSet;
import java.util.List;
import java.util.Map;
import java.util.Set;

/** Tests that are named by words of the document: each must stand there, and no sentence may be left out. */
final class Sentences {
    private final Map<String, List<String>> document = Document.sentences();
    private final Set<String> tested = new HashSet<>();

    /** Runs the test of the sentence under the heading in which these words stand. */
    void test(String heading, String words, Runnable test) {
        Check.about(heading + ", \"" + words + "\"");
        boolean found = false;
        for (String sentence : document.getOrDefault(heading, List.of())) {
            if (sentence.contains(words)) {
                tested.add(heading + sentence);
                found = true;
            }
        }
        Check.holds("stands in the document", found);
        Check.same("the test ends", "0", Check.outcome(() -> {
            test.run();
            return 0;
        }));
        Check.about("");
    }

    /** Each sentence under a heading that starts so has a test. */
    void allUnder(String start) {
        for (Map.Entry<String, List<String>> part : document.entrySet()) {
            if (part.getKey().startsWith(start)) {
                for (String sentence : part.getValue()) {
                    String name = part.getKey() + ", \"" + sentence + "\" has a test";
                    Check.holds(name, tested.contains(part.getKey() + sentence));
                }
            }
        }
    }
}
