import java.io.IOException;
import java.nio.charset.StandardCharsets;
import java.nio.file.Files;
import java.nio.file.Path;
import java.util.regex.Matcher;
import java.util.regex.Pattern;

/** The program keeps to those rules of ../shared/LANGUAGE.md that words can show. */
public final class LanguageTest {
    private static final String[] FORBIDDEN = {"\\bimport\\b", "\\bpackage\\b", "->", "::", "\\bcatch\\b", "\\bfinally\\b",
        "\\bsynchronized\\b", "\\bassert\\b", "\\bvar\\b", "\\bprotected\\b", "\\bString\\.format\\b", "\\w+Exact\\(",
        "\\bSystem\\.(?!arraycopy\\b)", "\\bMath\\.(?!abs\\b|max\\b|min\\b|floorDiv\\b)",
        "\\bInteger\\.(?!bitCount\\b)", "\\bDouble\\b", "\\bLong\\b", "\\bstatic\\s*\\{", "\\bthread", "\\brandom"};

    public static void main(String[] args) throws IOException {
        String source = Files.readString(Path.of("src/main/java/SquareGears.java"), StandardCharsets.UTF_8);
        String code = source.replaceAll("(?s)/\\*.*?\\*/", "").replaceAll("//[^\n]*", "");
        for (String word : FORBIDDEN) {
            Matcher found = Pattern.compile(word).matcher(code);
            Due.isTrue("the program does without " + word, !found.find());
        }
        Due.isTrue("the program has signs 1 to 127 alone", source.chars().allMatch(sign -> sign >= 1 && sign <= 127));
        // No call makes an object, so that all calls of a run have room.
        Matcher made = Pattern.compile("\\bnew (?!Gears|SavedGears|WheelText|int\\[|char\\[)(\\w+)").matcher(code);
        while (made.find()) {
            Due.isTrue("new " + made.group(1) + " is an exception", made.group(1).endsWith("Exception"));
        }
        Due.end("LanguageTest");
    }
}
