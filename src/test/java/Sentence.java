import java.io.IOException;
import java.nio.charset.StandardCharsets;
import java.nio.file.Files;
import java.nio.file.Path;
import java.util.ArrayList;
import java.util.List;
import java.util.Map;
import java.util.TreeMap;

/** Which sentences of the document have a test of their own, and whether each one of its promises does. */
final class Sentence {
    private static final Path DOCUMENT = Path.of("../shared/DOC.md");
    private static final int PROMISES = 25;

    private static final Map<String, List<String>> tested = new TreeMap<>();

    private Sentence() {
    }

    /** The tests that follow are of these words, which stand under this heading. */
    static void of(String heading, String words) {
        tested.computeIfAbsent(heading, none -> new ArrayList<>()).add(words);
        Due.about(heading + ", \"" + words + "\"");
    }

    static void areThoseOfTheDocument() throws IOException {
        if (!Files.exists(DOCUMENT)) {
            System.out.println(DOCUMENT + " is not there: its sentences are not compared with those of the tests");
            return;
        }
        Due.about(DOCUMENT.toString());
        Map<String, List<String>> lines = linesByHeading();
        for (Map.Entry<String, List<String>> entry : tested.entrySet()) {
            String all = String.join("\n", lines.getOrDefault(entry.getKey(), List.of()));
            for (String words : entry.getValue()) {
                Due.isTrue(entry.getKey() + " says \"" + words + "\"", all.contains(words));
            }
        }
        for (int promise = 1; promise <= PROMISES; promise++) {
            isTestedLineByLine("Promise " + promise, lines);
        }
    }

    /** The number of a promise, or the whole heading, is the key; what stands under smaller headings belongs to it. */
    private static Map<String, List<String>> linesByHeading() throws IOException {
        Map<String, List<String>> lines = new TreeMap<>();
        String heading = "";
        for (String line : Files.readAllLines(DOCUMENT, StandardCharsets.UTF_8)) {
            if (line.startsWith("## ")) {
                heading = line.substring(3).replaceAll("^(Promise \\d+):.*", "$1");
            } else {
                lines.computeIfAbsent(heading, none -> new ArrayList<>()).add(line);
            }
        }
        return lines;
    }

    private static void isTestedLineByLine(String promise, Map<String, List<String>> lines) {
        List<String> quoted = tested.getOrDefault(promise, List.of());
        for (String line : lines.getOrDefault(promise, List.of())) {
            boolean found = line.isBlank() || quoted.stream().anyMatch(line::contains);
            Due.isTrue(promise + " has a test of \"" + line + "\"", found);
        }
    }
}
