import java.io.IOException;
import java.lang.reflect.InvocationTargetException;
import java.lang.reflect.Method;
import java.nio.charset.StandardCharsets;
import java.nio.file.Files;
import java.nio.file.Path;
import java.util.ArrayList;
import java.util.Arrays;
import java.util.List;
import java.util.regex.Matcher;
import java.util.regex.Pattern;

/**
 * The document read from its first line to its last: what it says in general, and each of its lists told against the
 * program: the face word for word, what stands ahead of the calls, both ends of each range, which exception comes
 * first, what is undoable.
 */
public final class ReadingTest {
    private static final Pattern AHEAD = Pattern.compile("Ahead of the calls (.*) the interface says: (---- .*)\\.");
    private static final Path PROGRAM = Path.of("src/main/java/SquareGears.java");

    public static void main(String[] args) throws IOException, ReflectiveOperationException {
        ReadingOfWords.test();
        Sentence.areOfTheDocument();
        if (Document.isThere()) {
            testDocument();
        }
        Due.end("ReadingTest");
    }

    private static void testDocument() throws IOException, ReflectiveOperationException {
        List<String> source = Files.readAllLines(PROGRAM, StandardCharsets.UTF_8);
        testFace(source);
        testAheadOfCalls(source);
        testPromises();
        for (Document.Method promised : Document.methods()) {
            testThrowsClause(promised);
            testArguments(promised);
            testUndoable(promised);
        }
    }

    /** The document's lines, in its order, are the program's lines that are public. */
    private static void testFace(List<String> source) throws IOException {
        List<String> due = new ArrayList<>();
        for (String line : Document.face()) {
            due.add(line.strip().replaceAll("\\);$", ") {").replaceAll("( throws .*);$", "$1 {"));
        }
        due.remove("}");
        List<String> found = new ArrayList<>();
        for (String line : source) {
            if (line.strip().startsWith("public ")) {
                found.add(line.strip());
            }
        }
        Due.isTrue("the face " + found + ", due is " + due + ",", due.equals(found));
    }

    private static void testAheadOfCalls(List<String> source) throws IOException {
        int parts = 0;
        for (String line : Document.linesByHeading().get("Terms")) {
            Matcher ahead = AHEAD.matcher(line);
            if (ahead.matches()) {
                parts++;
                for (String name : ahead.group(1).split(", ")) {
                    isAhead(source, ahead.group(2), name.replace("`", ""));
                }
            }
        }
        Due.is("parts of the interface", 5, parts);
    }

    private static void isAhead(List<String> source, String words, String name) {
        String part = "";
        for (String line : source) {
            part = line.strip().startsWith("// ----") ? line.strip().substring(3) : part;
            if (line.matches("    public \\w+ " + name + "\\(.*")) {
                Due.isTrue(name + " stands behind " + words + ", not " + part + ":", part.equals(words));
                return;
            }
        }
        Due.isTrue("the program has " + name, false);
    }

    /** Were a promise not understood, it would not be tested. */
    private static void testPromises() throws IOException {
        List<String> names = new ArrayList<>();
        for (Document.Method promised : Document.methods()) {
            names.add(promised.name());
        }
        Due.isTrue("the promises " + names, names.equals(List.of("set", "lose", "turn", "drop", "point", "copy", "fit",
            "append", "clearBuffer", "firstError", "load", "keep", "goBack", "undo", "wheelOf", "trace", "pointOf", "count",
            "findLost", "enough", "ifTurned", "bestTurn", "mainShare", "digest")));
    }

    private static Method ofProgram(Document.Method promised) throws ReflectiveOperationException {
        Class<?>[] types = new Class<?>[promised.arguments().size()];
        Arrays.fill(types, int.class);
        return SquareGears.class.getMethod(promised.name(), types);
    }

    private static void testThrowsClause(Document.Method promised) throws ReflectiveOperationException {
        List<String> thrown = new ArrayList<>();
        for (Class<?> type : ofProgram(promised).getExceptionTypes()) {
            thrown.add(type.getSimpleName());
        }
        Due.isTrue(promised.name() + " throws " + thrown, thrown.equals(promised.thrown()));
    }

    /** With a saved state, both snapshots, and a text that tells wheels: no call has a reason to throw but its arguments. */
    private static SquareGears ready() {
        SquareGears gears = Make.half();
        gears.keep(0);
        return Make.withText(gears, "b=7;c!");
    }

    /** Both ends of each range, and what lies beyond them, of each argument with each of the others. */
    private static void testArguments(Document.Method promised) throws ReflectiveOperationException {
        List<int[]> rows = new ArrayList<>();
        rows.add(new int[0]);
        for (int[] range : promised.ranges()) {
            List<int[]> longer = new ArrayList<>();
            for (int[] row : rows) {
                for (int number : numbersAt(range)) {
                    int[] next = Arrays.copyOf(row, row.length + 1);
                    next[row.length] = number;
                    longer.add(next);
                }
            }
            rows = longer;
        }
        for (int[] row : rows) {
            String told = promised.name() + Arrays.toString(row);
            String due = dueException(promised, row);
            String got = thrownBy(promised, ready(), row);
            Due.isTrue(told + " threw " + got + ", due is " + due + ":", got.equals(due));
        }
    }

    private static int[] numbersAt(int[] range) {
        return new int[] {range[0], range[1], range[0] - 1, range[1] + 1, Integer.MIN_VALUE, Integer.MAX_VALUE};
    }

    /** The first one of the throws clause whose case names an argument that is out of its range. */
    private static String dueException(Document.Method promised, int[] row) {
        for (int i = 0; i < promised.thrown().size(); i++) {
            for (int k = 0; k < row.length; k++) {
                int[] range = promised.ranges().get(k);
                boolean outside = row[k] < range[0] || row[k] > range[1];
                if (outside && promised.cases().get(i).matches(".*\\b" + promised.arguments().get(k) + "\\b.*")) {
                    return promised.thrown().get(i);
                }
            }
        }
        return "nothing";
    }

    private static String thrownBy(Document.Method promised, SquareGears gears, int[] row) throws ReflectiveOperationException {
        Object[] arguments = new Object[row.length];
        for (int k = 0; k < row.length; k++) {
            arguments[k] = row[k];
        }
        try {
            ofProgram(promised).invoke(gears, arguments);
        } catch (InvocationTargetException thrown) {
            return thrown.getCause().getClass().getSimpleName();
        }
        return "nothing";
    }

    private static void testUndoable(Document.Method promised) throws ReflectiveOperationException {
        int[] row = new int[promised.ranges().size()];
        for (int k = 0; k < row.length; k++) {
            row[k] = promised.ranges().get(k)[1];
        }
        SquareGears gears = ready();
        Due.isTrue(promised.name() + " throws nothing", thrownBy(promised, gears, row).equals("nothing"));
        int due = promised.name().equals("undo") ? 0 : promised.undoable() ? 2 : 1;
        Due.is("count(8) behind " + promised.name(), due, gears.count(8));
    }
}
