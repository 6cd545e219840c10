import java.util.Arrays;

/** The edges of the promises 1 to 5: a new object, set, lose, turn, drop. */
final class EdgesOfWheels {
    private EdgesOfWheels() {
    }

    static void test() {
        testNew();
        testSet();
        testSetAnswers();
        testSetRefused();
        testLose();
        testLoseAnswers();
        testLoseRefused();
        testTurn();
        testTurnBy();
        testTurnAnswers();
        testTurnRefused();
        testDrop();
        testDropLeast();
        testDropAnswers();
        testDropRefused();
    }

    private static void testNew() {
        Sentence.of("Promise 1", "Creates an adder with amplitudes of 0, with empty slots and an empty buffer.");
        SquareGears other = Make.busy();
        SquareGears gears = new SquareGears();
        other.set(0, 98);
        Make.areAmplitudes("beside another object", gears, 0, 0, 0, 0, 0, 0, 0, 0);
        Due.isTrue("all that it has is 0:", Arrays.equals(new long[25], Twins.state(gears)));
        Due.isBadState("goBack(0)", gears, g -> g.goBack(0));
        Due.isBadState("goBack(1)", gears, g -> g.goBack(1));
        Due.isBadState("undo()", gears, g -> g.undo());
        Due.isBadArgument("load()", gears, g -> g.load());
        Due.is("firstError()", 0, gears.firstError());
        Due.is("clearBuffer()", 0, gears.clearBuffer());
        Due.is("append(97)", 1, gears.append(97));
    }

    private static void testSet() {
        Sentence.of("Promise 2", "Changes the amplitude of a wheel. Undoable.");
        Twins.areSavedBefore("set(0, 98)", g -> g.set(0, 98));
        Twins.areSavedBefore("set to what it is", g -> g.set(7, g.wheelOf(7, 0)));
        Sentence.of("Promise 2", "`wheel`: 0 to 7");
        SquareGears gears = new SquareGears();
        gears.set(0, 1);
        gears.set(7, 2);
        Make.areAmplitudes("the first and the last wheel", gears, 1, 0, 0, 0, 0, 0, 0, 2);
        Sentence.of("Promise 2", "`amplitude`: -99 to 99");
        gears.set(3, -99);
        gears.set(4, 99);
        Make.areAmplitudes("the least and the greatest amplitude", gears, 1, 0, 0, -99, 99, 0, 0, 2);
        gears.set(3, 0);
        Make.areAmplitudes("0 again", gears, 1, 0, 0, 0, 99, 0, 0, 2);
    }

    private static void testSetAnswers() {
        Sentence.of("Promise 2", "Returns the amplitude before.");
        SquareGears gears = new SquareGears();
        Due.is("set(7, -99) of 0", 0, gears.set(7, -99));
        Due.is("set(7, 99) of -99", -99, gears.set(7, 99));
        Due.is("set(7, 99) of 99", 99, gears.set(7, 99));
        gears.lose(7);
        Due.is("set(7, 0) of 99, lost", 99, gears.set(7, 0));
        Make.areLost("the wheel stays lost", gears, 7);
    }

    private static void testSetRefused() {
        Sentence.of("Promise 2", "Throws `IndexOutOfBoundsException` if there is no such wheel");
        for (int wheel : Make.WRONG_PLACES) {
            Twins.areOutOfBounds("set(" + wheel + ", 5)", g -> g.set(wheel, 5));
            Twins.areOutOfBounds("set(" + wheel + ", -100)", g -> g.set(wheel, -100));
            Twins.areOutOfBounds("set(" + wheel + ", 100)", g -> g.set(wheel, 100));
        }
        Sentence.of("Promise 2", "Throws `IllegalArgumentException` if amplitude is out of range");
        for (int amplitude : Make.outside(-99, 99)) {
            Twins.areBadArguments("set(0, " + amplitude + ")", g -> g.set(0, amplitude));
            Twins.areBadArguments("set(7, " + amplitude + ")", g -> g.set(7, amplitude));
        }
    }

    private static void testLose() {
        Sentence.of("Promise 3", "A wheel is lost, or found again, if it was. Undoable.");
        Twins.areSavedBefore("lose(3)", g -> g.lose(3));
        SquareGears gears = Make.gears(0, 99);
        gears.lose(1);
        Make.isTrace("lost", gears, 0, 0, 0, 0, 0, 0, 0, 0);
        gears.lose(1);
        Make.isTrace("found again", gears, 99, -99, 99, -99, 99, -99, 99, -99);
        Make.areLost("found again", gears);
        gears.lose(0);
        Make.areLost("with an amplitude of 0", gears, 0);
        Sentence.of("Promise 3", "`wheel`: 0 to 7");
        gears.lose(7);
        Make.areLost("the first and the last wheel", gears, 0, 7);
        for (int wheel = 1; wheel < 7; wheel++) {
            gears.lose(wheel);
        }
        Make.areLost("all", gears, 0, 1, 2, 3, 4, 5, 6, 7);
    }

    private static void testLoseAnswers() {
        Sentence.of("Promise 3", "Returns 1 if it is lost then, otherwise 0.");
        SquareGears gears = new SquareGears();
        for (int wheel = 0; wheel < 8; wheel++) {
            Due.is("lose(" + wheel + ")", 1, gears.lose(wheel));
        }
        for (int wheel = 0; wheel < 8; wheel++) {
            Due.is("lose(" + wheel + ") of all lost", 0, gears.lose(wheel));
        }
        Due.is("lose(0) a third time", 1, gears.lose(0));
    }

    private static void testLoseRefused() {
        Sentence.of("Promise 3", "Throws `IndexOutOfBoundsException` if there is no such wheel");
        for (int wheel : Make.WRONG_PLACES) {
            Twins.areOutOfBounds("lose(" + wheel + ")", g -> g.lose(wheel));
        }
        // A bit for each wheel would make these 0 and 1 again.
        Twins.areOutOfBounds("lose(32)", g -> g.lose(32));
        Twins.areOutOfBounds("lose(33)", g -> g.lose(33));
    }

    private static void testTurn() {
        Sentence.of("Promise 4", "each amplitude is multiplied by the wave of its wheel at this number. Undoable.");
        Twins.areSavedBefore("turn(0)", g -> g.turn(0));
        Twins.areSavedBefore("turn(7)", g -> g.turn(7));
        SquareGears gears = Make.withPattern(Make.gears(1, 2, 3, 4, 5, 6, 7, 8), 9, 8, 7);
        gears.lose(2);
        gears.turn(0);
        Make.areAmplitudes("turn(0)", gears, 1, 2, 3, 4, 5, 6, 7, 8);
        gears.turn(7);
        Make.areAmplitudes("turn(7)", gears, 1, -2, -3, 4, -5, 6, 7, -8);
        Make.isPattern("turn(7) leaves the pattern", gears, 9, 8, 7, 0, 0, 0, 0, 0);
        Make.areLost("turn(7) leaves the lost wheels", gears, 2);
        gears.turn(7);
        Make.areAmplitudes("turn(7) twice", gears, 1, 2, 3, 4, 5, 6, 7, 8);
    }

    private static void testTurnBy() {
        Sentence.of("Promise 4", "the trace at each point becomes what it was at the point whose bits differ from its own just in the bits of the number");
        SquareGears gears = Make.gears(1, 2, 4, 8, 16, 32, 64, -90);
        gears.lose(3);
        long[] before = traces(gears);
        gears.turn(0);
        Due.isTrue("turn(0) leaves all traces:", Arrays.equals(before, traces(gears)));
        gears.turn(7);
        long[] behind = traces(gears);
        for (int point = 0; point < 8; point++) {
            Due.is("turn(7): trace(" + point + ", 0)", before[7 - point], behind[point]);
        }
        Sentence.of("Promise 4", "`by`: 0 to 7");
        gears = Make.gears(99, 99, 99, 99, 99, 99, 99, 99);
        for (int by = 0; by < 8; by++) {
            gears.turn(by);
            Due.is("turn(" + by + ") of a trace at the point 0 alone", 792, gears.trace(by, 0));
            gears.turn(by);
        }
    }

    private static long[] traces(SquareGears gears) {
        long[] traces = new long[8];
        for (int point = 0; point < 8; point++) {
            traces[point] = gears.trace(point, 0);
        }
        return traces;
    }

    private static void testTurnAnswers() {
        Sentence.of("Promise 4", "Returns how many amplitudes that are not 0 are turned to the other sign, those of lost wheels among them.");
        SquareGears gears = new SquareGears();
        Due.is("turn(7), all are 0", 0, gears.turn(7));
        gears = Make.gears(1, 1, 1, 1, -1, -1, -1, -1);
        Due.is("turn(0), none is 0", 0, gears.turn(0));
        for (int by = 1; by < 8; by++) {
            Due.is("turn(" + by + "), none is 0", 4, gears.turn(by));
        }
        for (int wheel = 0; wheel < 8; wheel++) {
            gears.lose(wheel);
        }
        Due.is("turn(7), all are lost", 4, gears.turn(7));
        gears.set(1, 0);
        Due.is("turn(7), one is 0", 3, gears.turn(7));
        Due.is("turn(7) of the wheel 0 alone", 0, Make.gears(99).turn(7));
    }

    private static void testTurnRefused() {
        Sentence.of("Promise 4", "Throws `IllegalArgumentException` if by is out of range");
        for (int by : Make.outside(0, 7)) {
            Twins.areBadArguments("turn(" + by + ")", g -> g.turn(by));
        }
    }

    private static void testDrop() {
        Sentence.of("Promise 5", "Drops all wheels whose amplitude is small: it becomes 0. Undoable.");
        Twins.areSavedBefore("drop(1)", g -> g.drop(1));
        Twins.areSavedBefore("drop(99)", g -> g.drop(99));
        SquareGears gears = Make.withPattern(Make.gears(98, -98, 97, -97, 2, -2, 1, -1), 5);
        gears.drop(99);
        Make.areAmplitudes("drop(99)", gears, 0, 0, 0, 0, 0, 0, 0, 0);
        Make.isPattern("drop(99) leaves the pattern", gears, 5, 0, 0, 0, 0, 0, 0, 0);
    }

    private static void testDropLeast() {
        Sentence.of("Promise 5", "`least`: 1 to 99: wheels with a lesser amplitude, without its sign, are dropped, lost ones, too");
        SquareGears gears = Make.gears(99, -99, 98, -98, 2, -2, 1, -1);
        gears.lose(1);
        gears.lose(3);
        gears.lose(5);
        gears.lose(7);
        gears.drop(1);
        Make.areAmplitudes("drop(1)", gears, 99, -99, 98, -98, 2, -2, 1, -1);
        gears.drop(2);
        Make.areAmplitudes("drop(2)", gears, 99, -99, 98, -98, 2, -2, 0, 0);
        gears.drop(98);
        Make.areAmplitudes("drop(98)", gears, 99, -99, 98, -98, 0, 0, 0, 0);
        gears.drop(99);
        Make.areAmplitudes("drop(99)", gears, 99, -99, 0, 0, 0, 0, 0, 0);
        Make.areLost("dropped ones stay lost", gears, 1, 3, 5, 7);
    }

    private static void testDropAnswers() {
        Sentence.of("Promise 5", "Returns how many amplitudes that were not 0 are dropped.");
        Due.is("drop(99), all are 0", 0, new SquareGears().drop(99));
        Due.is("drop(99), all are 99", 0, Make.gears(99, -99, 99, -99, 99, -99, 99, -99).drop(99));
        Due.is("drop(1), all are 1", 0, Make.gears(1, -1, 1, -1, 1, -1, 1, -1).drop(1));
        SquareGears gears = Make.gears(98, -98, 1, -1, 50, -50, 97, -97);
        gears.lose(0);
        gears.lose(7);
        Due.is("drop(99), all are less", 8, gears.drop(99));
        Due.is("drop(99) again", 0, gears.drop(99));
    }

    private static void testDropRefused() {
        Sentence.of("Promise 5", "Throws `IllegalArgumentException` if least is out of range");
        for (int least : Make.outside(1, 99)) {
            Twins.areBadArguments("drop(" + least + ")", g -> g.drop(least));
        }
        Twins.areBadArguments("drop(-1)", g -> g.drop(-1));
    }
}
