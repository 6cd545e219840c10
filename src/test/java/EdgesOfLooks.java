/** The edges of the promises 16 to 19: wheelOf, trace, pointOf, count. */
final class EdgesOfLooks {
    private EdgesOfLooks() {
    }

    static void test() {
        testWheelOf();
        testWheelOfWhat();
        testWheelOfRefused();
        testTrace();
        testTraceRefused();
        testPointOf();
        testPointOfWhat();
        testPointOfRefused();
        testCount();
        testCountOfWheels();
        testCountOfTraces();
        testCountOfDifferences();
        testCountOfJumps();
        testOvershoot();
        testCountOfFits();
        testCountOfSavedStates();
        testCountRefused();
    }

    private static void testWheelOf() {
        Sentence.of("Promise 16", "Returns something of a wheel.");
        for (int what = 0; what <= 3; what++) {
            int asked = what;
            Twins.areLeftAlike("wheelOf(7, " + what + ")", g -> g.wheelOf(7, asked));
        }
        Sentence.of("Promise 16", "`wheel`: 0 to 7");
        SquareGears gears = Make.gears(11, 0, 0, 0, 0, 0, 0, 17);
        Due.is("wheelOf(0, 0)", 11, gears.wheelOf(0, 0));
        Due.is("wheelOf(7, 0)", 17, gears.wheelOf(7, 0));
    }

    private static void testWheelOfWhat() {
        Sentence.of("Promise 16", "`what`: 0: its amplitude; 1: 1 if it is lost, otherwise 0; 2: the amplitude of the pattern for it");
        SquareGears gears = Make.gears(-99, 99);
        Due.is("the least amplitude", -99, gears.wheelOf(0, 0));
        Due.is("the greatest amplitude", 99, gears.wheelOf(1, 0));
        Due.is("not lost", 0, gears.wheelOf(1, 1));
        gears.lose(1);
        Due.is("lost", 1, gears.wheelOf(1, 1));
        Due.is("the amplitude of a lost one", 99, gears.wheelOf(1, 0));
        Make.withPattern(gears, 9999, -9999, 9999, -9999, 9999, -9999, 9999, -9999);
        Due.is("the greatest amplitude of a pattern, lost", 9999, gears.wheelOf(1, 2));
        gears.point(0, 9998);
        Due.is("the greatest amplitude of a pattern less an eighth", 9998, gears.wheelOf(1, 2));
        Due.is("0 less an eighth", -1, gears.wheelOf(0, 2));
        Sentence.of("Promise 16", "Returns the number.");
        Due.is("the amplitude stays", 99, gears.wheelOf(1, 0));
        Sentence.of("Promise 16", "3: how often its wave changes from a point to the next one, from 0 to 7");
        // Behind the point 7 there is no next one: otherwise the wheels 1, 2, 4 and 7 would have one more.
        int[] changes = {0, 7, 3, 4, 1, 6, 2, 5};
        for (int wheel = 0; wheel < 8; wheel++) {
            Due.is("wheelOf(" + wheel + ", 3)", changes[wheel], gears.wheelOf(wheel, 3));
            Due.is("wheelOf(" + wheel + ", 3) of 0", changes[wheel], new SquareGears().wheelOf(wheel, 3));
        }
    }

    private static void testWheelOfRefused() {
        Sentence.of("Promise 16", "Throws `IndexOutOfBoundsException` if there is no such wheel");
        for (int wheel : Make.WRONG_PLACES) {
            for (int what = -1; what <= 4; what++) {
                int asked = what;
                Twins.areOutOfBounds("wheelOf(" + wheel + ", " + what + ")", g -> g.wheelOf(wheel, asked));
            }
        }
        Sentence.of("Promise 16", "Throws `IllegalArgumentException` if what is not 0 to 3");
        for (int what : Make.outside(0, 3)) {
            Twins.areBadArguments("wheelOf(0, " + what + ")", g -> g.wheelOf(0, what));
            Twins.areBadArguments("wheelOf(7, " + what + ")", g -> g.wheelOf(7, what));
        }
    }

    private static void testTrace() {
        Sentence.of("Promise 17", "Tells the trace at a point.");
        Twins.areLeftAlike("trace(7, 0)", g -> g.trace(7, 0));
        Twins.areLeftAlike("trace(7, 1)", g -> g.trace(7, 1));
        Sentence.of("Promise 17", "`point`: 0 to 7");
        SquareGears gears = Make.gears(1, 2, 4, 8, 16, 32, 64, 99);
        Due.is("trace(0, 0)", 226, gears.trace(0, 0));
        Due.is("trace(7, 0)", 1 - 2 - 4 + 8 - 16 + 32 + 64 - 99, gears.trace(7, 0));
        Sentence.of("Promise 17", "`what`: 0: told by adding up all wheels; 1: told by halves");
        Due.is("trace(0, 1)", 226, gears.trace(0, 1));
        Due.is("trace(7, 1)", 1 - 2 - 4 + 8 - 16 + 32 + 64 - 99, gears.trace(7, 1));
        Sentence.of("Promise 17", "of a row of amplitudes (0 for lost wheels)");
        for (int wheel = 0; wheel < 8; wheel++) {
            gears.lose(wheel);
            Make.isTrace("lost up to " + wheel, gears, lostUpTo(wheel));
        }
        Sentence.of("Promise 17", "Returns the trace (the same for both).");
        for (int point = 0; point < 8; point++) {
            gears = Make.gears(99, 99, 99, 99, 99, 99, 99, 99);
            gears.turn(point);
            int[] due = new int[8];
            due[point] = 792;
            Make.isTrace("the greatest trace, at " + point, gears, due);
            gears = Make.gears(-99, -99, -99, -99, -99, -99, -99, -99);
            gears.turn(point);
            due[point] = -792;
            Make.isTrace("the least trace, at " + point, gears, due);
        }
    }

    /** The traces of the amplitudes 1, 2, 4, .. 64, 99 without the first ones. */
    private static int[] lostUpTo(int wheel) {
        int[] amplitudes = {1, 2, 4, 8, 16, 32, 64, 99};
        int[] traces = new int[8];
        for (int k = wheel + 1; k < 8; k++) {
            for (int n = 0; n < 8; n++) {
                traces[n] += Integer.bitCount(k & n) % 2 == 0 ? amplitudes[k] : -amplitudes[k];
            }
        }
        return traces;
    }

    private static void testTraceRefused() {
        Sentence.of("Promise 17", "Throws `IndexOutOfBoundsException` if there is no such point");
        for (int point : Make.WRONG_PLACES) {
            for (int what = -1; what <= 2; what++) {
                int asked = what;
                Twins.areOutOfBounds("trace(" + point + ", " + what + ")", g -> g.trace(point, asked));
            }
        }
        Sentence.of("Promise 17", "Throws `IllegalArgumentException` if what is not 0 or 1");
        for (int what : Make.outside(0, 1)) {
            Twins.areBadArguments("trace(0, " + what + ")", g -> g.trace(0, what));
            Twins.areBadArguments("trace(7, " + what + ")", g -> g.trace(7, what));
        }
    }

    private static void testPointOf() {
        Sentence.of("Promise 18", "Returns something of a point.");
        for (int what = 0; what <= 2; what++) {
            int asked = what;
            Twins.areLeftAlike("pointOf(7, " + what + ")", g -> g.pointOf(7, asked));
        }
        Sentence.of("Promise 18", "`point`: 0 to 7");
        SquareGears gears = Make.withPattern(new SquareGears(), 5, 0, 0, 0, 0, 0, 0, 6);
        Due.is("pointOf(0, 0)", 5, gears.pointOf(0, 0));
        Due.is("pointOf(7, 0)", 6, gears.pointOf(7, 0));
    }

    private static void testPointOfWhat() {
        Sentence.of("Promise 18", "`what`: 0: the pattern; 1: the difference; 2: the jump");
        SquareGears gears = Make.withPattern(Make.gears(99, 99, 99, 99, 99, 99, 99, 99), -9999, 9999);
        Due.is("the least pattern", -9999, gears.pointOf(0, 0));
        Due.is("the greatest pattern", 9999, gears.pointOf(1, 0));
        Due.is("the least difference", -10791, gears.pointOf(0, 1));
        gears.turn(1);
        Due.is("the pattern less the trace", 9999 - 792, gears.pointOf(1, 1));
        Sentence.of("Promise 18", "Returns the number.");
        Due.is("the jump up", 792, gears.pointOf(0, 2));
        Due.is("the jump down", -792, gears.pointOf(1, 2));
        Due.is("no jump", 0, gears.pointOf(2, 2));
        Sentence.of("Promise 18", "the trace at the next point (that of 0 behind 7) less that at this one");
        gears.turn(1);
        Due.is("the jump from 7 up to 0", 792, gears.pointOf(7, 2));
        Due.is("the jump from 0", -792, gears.pointOf(0, 2));
        gears.turn(7);
        Due.is("the jump from 7 down to 0", -792, gears.pointOf(7, 2));
        Due.is("the jump from 6 to 7", 792, gears.pointOf(6, 2));
        Due.is("the jump from 0 to 1", 0, gears.pointOf(0, 2));
    }

    private static void testPointOfRefused() {
        Sentence.of("Promise 18", "Throws `IndexOutOfBoundsException` if there is no such point");
        for (int point : Make.WRONG_PLACES) {
            for (int what = -1; what <= 3; what++) {
                int asked = what;
                Twins.areOutOfBounds("pointOf(" + point + ", " + what + ")", g -> g.pointOf(point, asked));
            }
        }
        Sentence.of("Promise 18", "Throws `IllegalArgumentException` if what is not 0 to 2");
        for (int what : Make.outside(0, 2)) {
            Twins.areBadArguments("pointOf(0, " + what + ")", g -> g.pointOf(0, what));
            Twins.areBadArguments("pointOf(7, " + what + ")", g -> g.pointOf(7, what));
        }
    }

    private static void testCount() {
        Sentence.of("Promise 19", "Returns a number.");
        for (int what = 0; what <= 8; what++) {
            int asked = what;
            Twins.areLeftAlike("count(" + what + ")", g -> g.count(asked));
        }
        Sentence.of("Promise 19", "Returns the number.");
        for (int what = 0; what <= 8; what++) {
            Due.is("count(" + what + ") of a new object", 0, new SquareGears().count(what));
        }
    }

    private static void testCountOfWheels() {
        Sentence.of("Promise 19", "`what`: 0: amplitudes that are not 0; 1: lost wheels;");
        SquareGears gears = new SquareGears();
        for (int wheel = 0; wheel < 8; wheel++) {
            gears.set(wheel, wheel % 2 == 0 ? 1 : -1);
            Due.is("count(0) up to " + wheel, wheel + 1, gears.count(0));
        }
        for (int wheel = 0; wheel < 8; wheel++) {
            gears.lose(wheel);
            Due.is("count(1) up to " + wheel, wheel + 1, gears.count(1));
        }
        Due.is("count(0), all are lost", 8, gears.count(0));
    }

    private static void testCountOfTraces() {
        Sentence.of("Promise 19", "2: the greatest trace; 3: the least trace;");
        isGreatestAndLeast("all below 0", Make.gears(-99), -99, -99);
        isGreatestAndLeast("all above 0", Make.gears(99), 99, 99);
        isGreatestAndLeast("below 0, not alike", Make.gears(-50, 1), -49, -51);
        isGreatestAndLeast("above 0, not alike", Make.gears(50, 1), 51, 49);
        isGreatestAndLeast("the greatest of all", Make.gears(99, 99, 99, 99, 99, 99, 99, 99), 792, 0);
        isGreatestAndLeast("the least of all", Make.gears(-99, -99, -99, -99, -99, -99, -99, -99), 0, -792);
        SquareGears gears = Make.gears(99, 5);
        gears.lose(0);
        isGreatestAndLeast("without a lost wheel", gears, 5, -5);
        gears.lose(1);
        isGreatestAndLeast("all are lost", gears, 0, 0);
        for (int point = 0; point < 8; point++) {
            gears = Make.gears(9, 9, 9, 9, 9, 9, 9, 9);
            gears.turn(point);
            isGreatestAndLeast("above 0 at " + point, gears, 72, 0);
            gears = Make.gears(-9, -9, -9, -9, -9, -9, -9, -9);
            gears.turn(point);
            isGreatestAndLeast("below 0 at " + point, gears, 0, -72);
        }
    }

    private static void isGreatestAndLeast(String what, SquareGears gears, int greatest, int least) {
        Due.is(what + ": count(2)", greatest, gears.count(2));
        Due.is(what + ": count(3)", least, gears.count(3));
    }

    private static void testCountOfDifferences() {
        Sentence.of("Promise 19", "4: the greatest difference, without its sign;");
        for (int point = 0; point < 8; point++) {
            SquareGears gears = new SquareGears();
            gears.point(point, -1);
            Due.is("-1 at " + point, 1, gears.count(4));
            gears.point(point, 1);
            Due.is("1 at " + point, 1, gears.count(4));
            gears.point(point ^ 1, -2);
            Due.is("1 at " + point + " and -2 beside it", 2, gears.count(4));
        }
        SquareGears gears = Make.withPattern(Make.gears(99, 99, 99, 99, 99, 99, 99, 99), -9999);
        Due.is("the greatest of all, below 0", 10791, gears.count(4));
        gears = Make.withPattern(Make.gears(-99, -99, -99, -99, -99, -99, -99, -99), 9999);
        Due.is("the greatest of all, above 0", 10791, gears.count(4));
        gears.copy();
        Due.is("none", 0, gears.count(4));
    }

    private static void testCountOfJumps() {
        Sentence.of("Promise 19", "5: the greatest jump, without its sign;");
        Due.is("none", 0, Make.gears(99).count(5));
        Due.is("up and down", 198, Make.gears(0, 99).count(5));
        Due.is("the greatest of all", 792, Make.gears(99, 99, 99, 99, 99, 99, 99, 99).count(5));
        Due.is("the greatest of all, the other way", 792, Make.gears(-99, -99, -99, -99, -99, -99, -99, -99).count(5));
        for (int point = 0; point < 8; point++) {
            isOnlyGreatJump(point, 24);
            isOnlyGreatJump(point, -24);
        }
    }

    /** From -height at the point up to height at the next one, so that the jump is twice as great as those beside it. */
    private static void isOnlyGreatJump(int point, int height) {
        SquareGears gears = new SquareGears();
        gears.point(point, -height);
        gears.point((point + 1) % 8, height);
        gears.fit();
        Due.is("the jump behind " + point, 2 * height, gears.pointOf(point, 2));
        Due.is("the greatest jump, behind " + point, 48, gears.count(5));
    }

    private static void testOvershoot() {
        Sentence.of("Promise 19", "less the amplitude of the wheel 0 without its sign if it is not lost;");
        Due.is("the wheel 0 alone", 0, Make.gears(99).count(6));
        Due.is("the wheel 0 alone, below 0", 0, Make.gears(-99).count(6));
        Due.is("without the wheel 0", 99, Make.gears(0, 99).count(6));
        Due.is("the greatest of all, above 0", 693, Make.gears(99, 99, 99, 99, 99, 99, 99, 99).count(6));
        Due.is("the greatest of all, below 0", 693, Make.gears(-99, -99, -99, -99, -99, -99, -99, -99).count(6));
        SquareGears gears = Make.gears(-30, 7);
        Due.is("a trace below 0", 7, gears.count(6));
        gears.lose(0);
        Due.is("the wheel 0 is lost", 7, gears.count(6));
        gears.set(0, 99);
        Due.is("the lost wheel 0 has 99", 7, gears.count(6));
        gears.lose(1);
        Due.is("both are lost", 0, gears.count(6));
        gears.lose(0);
        Due.is("the other one is lost", 0, gears.count(6));
    }

    private static void testCountOfFits() {
        Sentence.of("Promise 19", "7: wheels changed by fit() so far;");
        SquareGears gears = new SquareGears();
        gears.fit();
        Due.is("fit() that changes none", 0, gears.count(7));
        for (int time = 1; time <= 20; time++) {
            gears.point(0, time % 2 == 0 ? 800 : -800);
            gears.fit();
            Due.is("fit() of all, time " + time, 8 * time, gears.count(7));
        }
        gears.fit();
        gears.set(0, 1);
        gears.turn(7);
        gears.drop(99);
        Due.is("other calls do not count", 160, gears.count(7));
    }

    private static void testCountOfSavedStates() {
        Sentence.of("Promise 19", "8: saved states");
        SquareGears gears = new SquareGears();
        for (int calls = 1; calls <= 8; calls++) {
            gears.copy();
            Due.is("behind " + calls + " calls", Math.min(6, calls), gears.count(8));
        }
        for (int left = 5; left >= 0; left--) {
            gears.undo();
            Due.is("behind undo()", left, gears.count(8));
        }
    }

    private static void testCountRefused() {
        Sentence.of("Promise 19", "Throws `IllegalArgumentException` if what is not 0 to 8");
        for (int what : Make.outside(0, 8)) {
            Twins.areBadArguments("count(" + what + ")", g -> g.count(what));
        }
    }
}
