import java.io.ByteArrayOutputStream;
import java.io.IOException;
import java.io.PrintStream;
import java.lang.reflect.Method;
import java.net.URL;
import java.net.URLClassLoader;
import java.nio.charset.StandardCharsets;
import java.nio.file.Files;
import java.nio.file.Path;
import java.util.List;
import java.util.regex.Matcher;
import java.util.regex.Pattern;
import java.util.stream.Collectors;
import java.util.stream.Stream;
import javax.tools.ToolProvider;

/** README.md says what holds: its example compiles and prints what it says, and no call and no test is missing. */
public final class ReadmeTest {
    private static final Path PAGE = Path.of("README.md");
    private static final Path TESTS = Path.of("src/test/java");
    private static final Path OUT = Path.of("build/readme");
    private static final Pattern EXAMPLE = Pattern.compile("```java\n(.*?)```", Pattern.DOTALL);
    private static final Pattern PRINTED = Pattern.compile("// prints (.*)");
    private static final Pattern CALL = Pattern.compile("\\| `(\\w+)\\((.*?)\\)` \\|");
    private static final Pattern TEST = Pattern.compile("(?m)^\\| (\\w+Test) \\|");

    public static void main(String[] args) throws IOException, ReflectiveOperationException {
        String page = Files.readString(PAGE, StandardCharsets.UTF_8);
        testExample(page);
        testCalls(page);
        testTests(page);
        Due.end("ReadmeTest");
    }

    private static void testExample(String page) throws IOException, ReflectiveOperationException {
        Matcher example = EXAMPLE.matcher(page);
        Due.isTrue("there is an example:", example.find());
        String source = example.group(1);
        String due = PRINTED.matcher(source).results().map(found -> found.group(1).strip() + "\n").collect(Collectors.joining());
        Due.isTrue("the example says what it prints:", !due.isEmpty());
        String printed = printedBy(source);
        Due.isTrue("the example printed\n" + printed + "and says\n" + due, printed.equals(due));
    }

    private static String printedBy(String source) throws IOException, ReflectiveOperationException {
        Files.createDirectories(OUT);
        Path file = Files.writeString(OUT.resolve("Example.java"), source, StandardCharsets.UTF_8);
        int failed = ToolProvider.getSystemJavaCompiler().run(null, null, null, "-cp", System.getProperty("java.class.path"),
            "-d", OUT.toString(), file.toString());
        Due.is("the example compiles:", 0, failed);
        if (failed != 0) {
            return "";
        }
        PrintStream before = System.out;
        ByteArrayOutputStream printed = new ByteArrayOutputStream();
        try (URLClassLoader loader = new URLClassLoader(new URL[] {OUT.toUri().toURL()})) {
            System.setOut(new PrintStream(printed, true, StandardCharsets.UTF_8));
            loader.loadClass("Example").getMethod("main", String[].class).invoke(null, (Object) new String[0]);
        } finally {
            System.setOut(before);
        }
        return printed.toString(StandardCharsets.UTF_8).replace("\r\n", "\n");
    }

    private static void testCalls(String page) throws IOException {
        List<String> told = CALL.matcher(page).results().map(found -> found.group(1)).sorted().collect(Collectors.toList());
        List<String> due = Stream.of(SquareGears.class.getMethods()).filter(method -> method.getDeclaringClass() == SquareGears.class)
            .map(Method::getName).sorted().collect(Collectors.toList());
        Due.isTrue("the page tells the calls " + told + ", due are " + due + ",", told.equals(due));
        if (Document.isThere()) {
            for (Document.Method promised : Document.methods()) {
                String call = "| `" + promised.name() + "(" + String.join(", ", promised.arguments()) + ")` |";
                Due.isTrue("the page has " + call, page.contains(call));
            }
        }
    }

    private static void testTests(String page) throws IOException {
        List<String> told = TEST.matcher(page).results().map(found -> found.group(1)).sorted().collect(Collectors.toList());
        try (Stream<Path> files = Files.list(TESTS)) {
            List<String> due = files.map(file -> file.getFileName().toString()).filter(name -> name.endsWith("Test.java"))
                .map(name -> name.replace(".java", "")).sorted().collect(Collectors.toList());
            Due.isTrue("the page tells the tests " + told + ", due are " + due + ",", told.equals(due));
        }
    }
}
