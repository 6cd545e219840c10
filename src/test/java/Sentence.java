import java.io.IOException;
import java.util.ArrayList;
import java.util.List;
import java.util.Map;
import java.util.TreeMap;

/** Which sentences of the document have a test of their own, and whether each one that promises something does. */
final class Sentence {
    private static final int PROMISES = 25;

    private static final Map<String, List<String>> tested = new TreeMap<>();

    private Sentence() {
    }

    /** The tests that follow are of these words, which stand under this heading. */
    static void of(String heading, String words) {
        tested.computeIfAbsent(heading, none -> new ArrayList<>()).add(words);
        Due.about(heading + ", \"" + words + "\"");
    }

    /** What the tests say that they are of stands in the document. */
    static void areOfTheDocument() throws IOException {
        if (!Document.isThere()) {
            System.out.println("the document is not there: its sentences are not compared with those of the tests");
            return;
        }
        Due.about("the document");
        Map<String, List<String>> lines = Document.linesByHeading();
        for (Map.Entry<String, List<String>> entry : tested.entrySet()) {
            String all = String.join("\n", lines.getOrDefault(entry.getKey(), List.of()));
            for (String words : entry.getValue()) {
                Due.isTrue(entry.getKey() + " says \"" + words + "\"", all.contains(words));
            }
        }
    }

    /** Each line of a promise, and each sentence of the terms, has a test. */
    static void areAllOfTheDocument() throws IOException {
        if (!Document.isThere()) {
            return;
        }
        Map<String, List<String>> lines = Document.linesByHeading();
        for (int promise = 1; promise <= PROMISES; promise++) {
            for (String line : lines.getOrDefault("Promise " + promise, List.of())) {
                isTested("Promise " + promise, line);
            }
        }
        for (String line : lines.getOrDefault("Terms", List.of())) {
            areTestedOneByOne(line);
        }
    }

    private static void isTested(String heading, String sentence) {
        boolean found = tested.getOrDefault(heading, List.of()).stream().anyMatch(sentence::contains);
        Due.isTrue(heading + " has a test of \"" + sentence + "\"", found);
    }

    /** A title has no full stop; what the interface says ahead of the calls is of ReadingTest. */
    private static void areTestedOneByOne(String line) {
        if (!line.endsWith(".") || line.startsWith("Ahead of the calls")) {
            return;
        }
        for (String sentence : line.split("(?<=\\.) ")) {
            isTested("Terms", sentence);
        }
    }
}
