import java.io.IOException;
import java.nio.charset.StandardCharsets;
import java.nio.file.Files;
import java.nio.file.Path;
import java.util.ArrayList;
import java.util.LinkedHashMap;
import java.util.List;
import java.util.Map;
import java.util.regex.Matcher;
import java.util.regex.Pattern;

/** ../shared/DOC.md, for tests that ask whether the program is what it says, word for word. */
final class Document {
    private static final Path FILE = Path.of("../shared/DOC.md");
    private static final Pattern SIGNATURE = Pattern.compile("`\\w+ (\\w+)\\((.*?)\\)(?: throws (.*?))?`: (.*)");
    private static final Pattern ARGUMENT = Pattern.compile("- `(\\w+)`: (.*)");
    private static final Pattern RANGE = Pattern.compile("(-?\\d+) (?:to|or) (-?\\d+)");
    private static final Pattern CHOICE = Pattern.compile("(?:^|; )(\\d+): ");
    private static final Pattern THROWN = Pattern.compile("Throws `(\\w+)` if (.*)");

    /** A method as its promise tells it; the cases are why it throws each of the exceptions. */
    record Method(String name, List<String> arguments, List<int[]> ranges, List<String> thrown, List<String> cases,
        boolean undoable) {
    }

    private Document() {
    }

    static boolean isThere() {
        return Files.exists(FILE);
    }

    /** The number of a promise, or the whole heading, is the key; what stands under smaller headings belongs to it. */
    static Map<String, List<String>> linesByHeading() throws IOException {
        Map<String, List<String>> lines = new LinkedHashMap<>();
        String heading = "";
        for (String line : Files.readAllLines(FILE, StandardCharsets.UTF_8)) {
            if (line.startsWith("## ")) {
                heading = line.substring(3).replaceAll("^(Promise \\d+):.*", "$1");
            } else if (!line.isBlank()) {
                lines.computeIfAbsent(heading, none -> new ArrayList<>()).add(line);
            }
        }
        return lines;
    }

    /** The lines of the class as the document writes it. */
    static List<String> face() throws IOException {
        List<String> lines = linesByHeading().get("The public face");
        return lines.subList(lines.indexOf("```java") + 1, lines.lastIndexOf("```"));
    }

    static List<Method> methods() throws IOException {
        List<Method> methods = new ArrayList<>();
        for (Map.Entry<String, List<String>> part : linesByHeading().entrySet()) {
            Matcher signature = SIGNATURE.matcher(part.getValue().get(0));
            if (part.getKey().startsWith("Promise ") && signature.matches()) {
                methods.add(method(signature, part.getValue()));
            }
        }
        return methods;
    }

    private static Method method(Matcher signature, List<String> lines) {
        List<String> arguments = new ArrayList<>();
        List<int[]> ranges = new ArrayList<>();
        List<String> thrown = new ArrayList<>();
        List<String> cases = new ArrayList<>();
        for (String line : lines) {
            Matcher argument = ARGUMENT.matcher(line);
            if (argument.matches()) {
                arguments.add(argument.group(1));
                ranges.add(range(argument.group(2)));
            }
            Matcher exception = THROWN.matcher(line);
            if (exception.matches()) {
                thrown.add(exception.group(1));
                cases.add(exception.group(2));
            }
        }
        return new Method(signature.group(1), arguments, ranges, thrown, cases, signature.group(4).endsWith(" Undoable."));
    }

    /** A list of choices, "0: this; 1: that", or a range, "0 to 7", "0 or 1". */
    private static int[] range(String words) {
        int greatest = -1;
        Matcher choice = CHOICE.matcher(words);
        while (choice.find()) {
            greatest = Integer.parseInt(choice.group(1));
        }
        if (greatest >= 0) {
            return new int[] {0, greatest};
        }
        Matcher range = RANGE.matcher(words);
        if (!range.find()) {
            throw new IllegalStateException("not understood: " + words);
        }
        return new int[] {Integer.parseInt(range.group(1)), Integer.parseInt(range.group(2))};
    }
}
