import java.io.IOException;
import java.util.Arrays;
import java.util.HashSet;
import java.util.Set;

/**
 * Each sentence of the document that names a boundary case, sentence by sentence: the last value that is
 * allowed and the first that is not, the empty and the full, what wraps around, what a refused call leaves.
 */
public final class EdgesTest {
    public static void main(String[] args) throws IOException {
        testBusyStates();
        EdgesOfTerms.test();
        EdgesOfWheels.test();
        EdgesOfPattern.test();
        EdgesOfTexts.test();
        EdgesOfStates.test();
        EdgesOfLooks.test();
        EdgesOfWouldBe.test();
        EdgesOfDigest.test();
        Sentence.areOfTheDocument();
        Sentence.areAllOfTheDocument();
        Due.end("EdgesTest");
    }

    /** Were two of them alike, a call that mixes them up would not be found. */
    private static void testBusyStates() {
        SquareGears gears = Make.busy();
        Set<String> states = new HashSet<>();
        states.add(Arrays.toString(Twins.state(gears)));
        for (int left = 5; left >= 0; left--) {
            Due.is("a busy object: undo()", left, gears.undo());
            states.add(Arrays.toString(Twins.state(gears)));
        }
        for (int slot = 0; slot <= 1; slot++) {
            gears.goBack(slot);
            states.add(Arrays.toString(Twins.state(gears)));
        }
        Due.is("different states of a busy object", 9, states.size());
        Due.is("its length", 60, gears.clearBuffer());
    }
}
