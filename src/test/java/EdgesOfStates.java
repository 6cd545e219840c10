import java.util.ArrayList;
import java.util.Arrays;
import java.util.List;

/** The edges of the promises 13 to 15: keep, goBack, undo. */
final class EdgesOfStates {
    private EdgesOfStates() {
    }

    static void test() {
        testKeep();
        testKeepAnswers();
        testKeepRefused();
        testGoBack();
        testGoBackOfAll();
        testGoBackSlots();
        testGoBackAnswers();
        testGoBackRefused();
        testUndo();
        testUndoOfEachCall();
        testUndoAroundTheOldest();
        testUndoRefused();
    }

    private static void testKeep() {
        Sentence.of("Promise 13", "Takes a snapshot, in place of the one in the slot.");
        SquareGears gears = Make.gears(1);
        gears.keep(0);
        gears.keep(1);
        Due.is("keep is not undoable: count(8)", 1, gears.count(8));
        gears.set(0, 2);
        gears.keep(1);
        gears.set(0, 3);
        gears.goBack(1);
        Due.is("the newer one is in the slot 1", 2, gears.wheelOf(0, 0));
        gears.goBack(0);
        Due.is("the other slot stays", 1, gears.wheelOf(0, 0));
        Sentence.of("Promise 13", "`slot`: 0 or 1");
        gears = new SquareGears();
        gears.keep(0);
        Due.isBadState("goBack(1) behind keep(0)", gears, g -> g.goBack(1));
        gears = new SquareGears();
        gears.keep(1);
        Due.isBadState("goBack(0) behind keep(1)", gears, g -> g.goBack(0));
        gears.keep(0);
        Due.is("goBack(0) behind keep(0)", 0, gears.goBack(0));
        Due.is("goBack(1) behind both", 0, gears.goBack(1));
    }

    private static void testKeepAnswers() {
        Sentence.of("Promise 13", "Returns how many amplitudes are not 0.");
        Due.is("keep(0) of none", 0, new SquareGears().keep(0));
        SquareGears gears = Make.gears(1, -1, 99, -99, 5, 6, 7, 8);
        Due.is("keep(1) of all", 8, gears.keep(1));
        gears.lose(0);
        gears.lose(7);
        Due.is("keep(1) of all, two of them lost", 8, gears.keep(1));
        gears.set(7, 0);
        Due.is("keep(0) of all but one", 7, gears.keep(0));
    }

    private static void testKeepRefused() {
        Sentence.of("Promise 13", "Throws `IllegalArgumentException` if slot is out of range");
        for (int slot : Make.outside(0, 1)) {
            Twins.areBadArguments("keep(" + slot + ")", g -> g.keep(slot));
        }
        // A bit for each slot would make these 0 and 1 again.
        Twins.areBadArguments("keep(32)", g -> g.keep(32));
        Twins.areBadArguments("keep(33)", g -> g.keep(33));
    }

    private static void testGoBack() {
        Sentence.of("Promise 14", "Goes back to a snapshot, which stays. Undoable.");
        Twins.areSavedBefore("goBack(0)", g -> {
            g.keep(0);
            return g.goBack(0);
        });
        SquareGears gears = Make.busy();
        long[] now = Twins.state(gears);
        gears.goBack(0);
        Make.areAmplitudes("goBack(0)", gears, 99, -99, 5, 0, -7, 30, 0, 1);
        gears.undo();
        Due.isTrue("undo() of goBack(0):", Arrays.equals(now, Twins.state(gears)));
        for (int time = 0; time < 3; time++) {
            gears.set(0, time);
            gears.goBack(0);
            Make.areAmplitudes("goBack(0) again", gears, 99, -99, 5, 0, -7, 30, 0, 1);
        }
        gears.keep(1);
        Due.is("goBack(0) behind keep(1)", 6, gears.goBack(0));
        gears.set(0, 0);
        while (gears.count(8) > 0) {
            gears.undo();
        }
        Due.is("goBack(0) behind undo() of all", 6, gears.goBack(0));
    }

    private static void testGoBackOfAll() {
        Sentence.of("Promise 14", "Goes back to a snapshot");
        SquareGears gears = Make.withPattern(new SquareGears(), 9999, -9999, 1, 2, 3, 4, -5, 17);
        gears.fit();
        gears.lose(0);
        gears.lose(7);
        long[] kept = Twins.state(gears);
        gears.keep(1);
        gears.append('x');
        gears.lose(3);
        gears.fit();
        gears.set(3, 3);
        gears.fit();
        gears.copy();
        gears.goBack(1);
        Due.isTrue("amplitudes, lost wheels, pattern and count(7):", Arrays.equals(kept, Twins.state(gears)));
        Due.is("not the buffer", 1, gears.clearBuffer());
        Due.is("not the saved states", 6, gears.count(8));
    }

    private static void testGoBackSlots() {
        Sentence.of("Promise 14", "`slot`: 0 or 1");
        SquareGears gears = Make.gears(3);
        gears.keep(0);
        gears.set(0, 4);
        gears.keep(1);
        gears.goBack(0);
        Due.is("the slot 0", 3, gears.wheelOf(0, 0));
        gears.goBack(1);
        Due.is("the slot 1", 4, gears.wheelOf(0, 0));
    }

    private static void testGoBackAnswers() {
        Sentence.of("Promise 14", "Returns how many amplitudes are not 0 then.");
        SquareGears gears = new SquareGears();
        gears.keep(0);
        for (int wheel = 0; wheel < 8; wheel++) {
            gears.set(wheel, 99);
        }
        gears.lose(1);
        gears.keep(1);
        Due.is("goBack(0) to none", 0, gears.goBack(0));
        Due.is("goBack(1) to all", 8, gears.goBack(1));
    }

    private static void testGoBackRefused() {
        Sentence.of("Promise 14", "Throws `IllegalArgumentException` if slot is out of range");
        for (int slot : Make.outside(0, 1)) {
            Twins.areBadArguments("goBack(" + slot + ")", g -> g.goBack(slot));
        }
        Twins.areBadArguments("goBack(32)", g -> g.goBack(32));
        Sentence.of("Promise 14", "Throws `IllegalStateException` if there is no snapshot in it");
        Twins.areRefused("goBack(0)", IllegalStateException.class, SquareGears::new, g -> g.goBack(0));
        Twins.areRefused("goBack(1)", IllegalStateException.class, SquareGears::new, g -> g.goBack(1));
        Twins.areRefused("goBack(0) with one in 1", IllegalStateException.class, Make::half, g -> g.goBack(0));
    }

    private static void testUndo() {
        Sentence.of("Promise 15", "Restores the latest saved state, and drops it.");
        SquareGears gears = Make.gears(1, 2);
        gears.undo();
        Make.areAmplitudes("the latest one", gears, 1, 0, 0, 0, 0, 0, 0, 0);
        gears.undo();
        Make.areAmplitudes("the one before it", gears, 0, 0, 0, 0, 0, 0, 0, 0);
        Due.isBadState("undo() is not undone", gears, g -> g.undo());
        Sentence.of("Promise 15", "Returns how many saved states are left.");
        gears = Make.busy();
        for (int left = 5; left >= 0; left--) {
            Due.is("undo()", left, gears.undo());
        }
        Due.is("the slot stays", 6, gears.goBack(0));
        Due.is("the buffer stays", 60, gears.clearBuffer());
    }

    private static void testUndoOfEachCall() {
        Sentence.of("Promise 15", "Restores the latest saved state");
        SquareGears gears = Make.withText(Make.withPattern(new SquareGears(), 80, 7), "a=1;b=2;c!");
        gears.keep(0);
        Due.Call[] calls = {g -> g.set(0, 9), g -> g.lose(0), g -> g.fit(), g -> g.turn(1), g -> g.drop(20), g -> g.point(7, 7),
            g -> g.copy(), g -> g.load(), g -> g.goBack(0)};
        List<long[]> states = new ArrayList<>();
        for (Due.Call call : calls) {
            states.add(Twins.state(gears));
            call.on(gears);
        }
        for (int i = calls.length - 1; i >= calls.length - 6; i--) {
            gears.undo();
            Due.isTrue("the state from before the call " + i + ":", Arrays.equals(states.get(i), Twins.state(gears)));
        }
    }

    private static void testUndoAroundTheOldest() {
        Sentence.of("Promise 15", "drops it.");
        SquareGears gears = new SquareGears();
        List<Integer> saved = new ArrayList<>();
        // Some 100 sets with undone ones between them, so that each place for a state is used many times.
        for (int amplitude = 1; amplitude <= 99; amplitude++) {
            saved.add(gears.set(0, amplitude));
            if (saved.size() > 6) {
                saved.remove(0);
            }
            for (int undone = 0; undone < amplitude % 4 && amplitude % 5 == 0; undone++) {
                int due = saved.remove(saved.size() - 1);
                Due.is("undo() behind " + amplitude, saved.size(), gears.undo());
                Due.is("the state behind it", due, gears.wheelOf(0, 0));
            }
        }
        while (!saved.isEmpty()) {
            int due = saved.remove(saved.size() - 1);
            Due.is("undo() at the end", saved.size(), gears.undo());
            Due.is("the state behind it", due, gears.wheelOf(0, 0));
        }
    }

    private static void testUndoRefused() {
        Sentence.of("Promise 15", "Throws `IllegalStateException` if there is none");
        Twins.areRefused("undo() of a new object", IllegalStateException.class, SquareGears::new, g -> g.undo());
        Twins.areRefused("undo() behind the last one", IllegalStateException.class, EdgesOfStates::busyAndUndone, g -> g.undo());
        Twins.areRefused("undo() behind calls that are not undoable", IllegalStateException.class, EdgesOfStates::kept,
            g -> g.undo());
    }

    private static SquareGears busyAndUndone() {
        SquareGears gears = Make.busy();
        for (int undone = 0; undone < 6; undone++) {
            gears.undo();
        }
        return gears;
    }

    private static SquareGears kept() {
        SquareGears gears = new SquareGears();
        gears.append('a');
        gears.keep(0);
        gears.clearBuffer();
        return gears;
    }
}
