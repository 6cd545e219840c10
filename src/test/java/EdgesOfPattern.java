/** The edges of the promises 6 to 8: point, copy, fit. */
final class EdgesOfPattern {
    private EdgesOfPattern() {
    }

    static void test() {
        testPoint();
        testPointRefused();
        testCopy();
        testCopyAnswers();
        testFitFindsWheels();
        testFitLimits();
        testFitRounds();
        testFitAnswers();
    }

    private static void testPoint() {
        Sentence.of("Promise 6", "Changes the pattern at a point. Undoable.");
        Twins.areSavedBefore("point(0, 11)", g -> g.point(0, 11));
        Twins.areSavedBefore("point to what it is", g -> g.point(7, g.pointOf(7, 0)));
        Sentence.of("Promise 6", "`point`: 0 to 7");
        SquareGears gears = new SquareGears();
        gears.point(0, 1);
        gears.point(7, 2);
        Make.isPattern("the first and the last point", gears, 1, 0, 0, 0, 0, 0, 0, 2);
        Sentence.of("Promise 6", "`number`: -9999 to 9999");
        gears.point(3, -9999);
        gears.point(4, 9999);
        Make.isPattern("the least and the greatest number", gears, 1, 0, 0, -9999, 9999, 0, 0, 2);
        Sentence.of("Promise 6", "Returns the number before.");
        Due.is("point(2, 5) of 0", 0, gears.point(2, 5));
        Due.is("point(3, 9999) of -9999", -9999, gears.point(3, 9999));
        Due.is("point(4, -9999) of 9999", 9999, gears.point(4, -9999));
        Due.is("point(4, -9999) of the same", -9999, gears.point(4, -9999));
    }

    private static void testPointRefused() {
        Sentence.of("Promise 6", "Throws `IndexOutOfBoundsException` if there is no such point");
        for (int point : Make.WRONG_PLACES) {
            Twins.areOutOfBounds("point(" + point + ", 5)", g -> g.point(point, 5));
            Twins.areOutOfBounds("point(" + point + ", -10000)", g -> g.point(point, -10000));
            Twins.areOutOfBounds("point(" + point + ", 10000)", g -> g.point(point, 10000));
        }
        Sentence.of("Promise 6", "Throws `IllegalArgumentException` if number is out of range");
        for (int number : Make.outside(-9999, 9999)) {
            Twins.areBadArguments("point(0, " + number + ")", g -> g.point(0, number));
            Twins.areBadArguments("point(7, " + number + ")", g -> g.point(7, number));
        }
    }

    private static void testCopy() {
        Sentence.of("Promise 7", "Makes the pattern what the trace is now. Undoable.");
        Twins.areSavedBefore("copy()", g -> g.copy());
        SquareGears gears = Make.gears(99, 99, 99, 99, 99, 99, 99, 99);
        gears.turn(7);
        gears.copy();
        Make.isPattern("the greatest trace", gears, 0, 0, 0, 0, 0, 0, 0, 792);
        gears = Make.gears(-99, -99, -99, -99, -99, -99, -99, -99);
        gears.copy();
        Make.isPattern("the least trace", gears, -792, 0, 0, 0, 0, 0, 0, 0);
        Make.areAmplitudes("the amplitudes stay", gears, -99, -99, -99, -99, -99, -99, -99, -99);
        for (int wheel = 0; wheel < 8; wheel++) {
            gears.lose(wheel);
        }
        gears.copy();
        Make.isPattern("all wheels are lost", gears, 0, 0, 0, 0, 0, 0, 0, 0);
        Make.areLost("they stay lost", gears, 0, 1, 2, 3, 4, 5, 6, 7);
    }

    private static void testCopyAnswers() {
        Sentence.of("Promise 7", "Returns at how many points it changes.");
        Due.is("copy() of a new object", 0, new SquareGears().copy());
        for (int point = 0; point < 8; point++) {
            SquareGears gears = Make.gears(1, 2, 4);
            Due.is("copy() at all points", 8, gears.copy());
            Due.is("copy() at none", 0, gears.copy());
            gears.point(point, 9);
            Due.is("copy() at the point " + point, 1, gears.copy());
        }
    }

    private static void testFitFindsWheels() {
        Sentence.of("Promise 8", "no wheel is lost");
        Twins.areSavedBefore("fit()", g -> g.fit());
        SquareGears gears = Make.gears(5, 5, 5, 5, 5, 5, 5, 5);
        gears.copy();
        for (int wheel = 0; wheel < 8; wheel++) {
            gears.lose(wheel);
        }
        Due.is("fit() of all lost wheels", 0, gears.fit());
        Make.areLost("fit() of all lost wheels", gears);
        Make.isTrace("fit() of all lost wheels", gears, 40, 0, 0, 0, 0, 0, 0, 0);
        Make.isPattern("the pattern stays", gears, 40, 0, 0, 0, 0, 0, 0, 0);
    }

    private static void testFitLimits() {
        Sentence.of("Promise 8", "but not below -99, and not above 99. Undoable.");
        isFitted("98", 784, 98);
        isFitted("99", 792, 99);
        isFitted("99 and seven eighths", 799, 99);
        isFitted("100", 800, 99);
        isFitted("the greatest number", 9999, 99);
        isFitted("-98", -784, -98);
        isFitted("-98 and an eighth", -785, -99);
        isFitted("-99", -792, -99);
        isFitted("-99 and an eighth", -793, -99);
        isFitted("-100", -800, -99);
        isFitted("the least number", -9999, -99);
        SquareGears gears = Make.withPattern(new SquareGears(), 9999, 9999, 9999, 9999, 9999, 9999, 9999, 9999);
        gears.fit();
        Make.areAmplitudes("the greatest amplitude", gears, 99, 0, 0, 0, 0, 0, 0, 0);
        gears = Make.withPattern(new SquareGears(), -9999, 9999, 9999, -9999, 9999, -9999, -9999, 9999);
        gears.fit();
        Make.areAmplitudes("the least amplitude", gears, 0, 0, 0, 0, 0, 0, 0, -99);
    }

    /** With one number at the point 0 alone, each wheel has an eighth of it. */
    private static void isFitted(String what, int number, int due) {
        SquareGears gears = Make.withPattern(new SquareGears(), number);
        gears.fit();
        Make.areAmplitudes("fit() of " + what, gears, due, due, due, due, due, due, due, due);
    }

    private static void testFitRounds() {
        Sentence.of("Promise 8", "each gets the amplitude of the pattern");
        isFitted("seven eighths", 7, 0);
        isFitted("an eighth", 1, 0);
        isFitted("less than 0 by an eighth", -1, -1);
        isFitted("-1", -8, -1);
        isFitted("-1 and an eighth", -9, -2);
    }

    private static void testFitAnswers() {
        Sentence.of("Promise 8", "Returns how many wheels get another amplitude.");
        Due.is("fit() of a new object", 0, new SquareGears().fit());
        SquareGears gears = Make.withPattern(new SquareGears(), 8);
        Due.is("fit() of all wheels", 8, gears.fit());
        Due.is("fit() again", 0, gears.fit());
        gears.lose(7);
        Due.is("fit() of a lost wheel with this amplitude", 0, gears.fit());
        gears.lose(7);
        gears.set(7, 0);
        Due.is("fit() of a lost wheel with another amplitude", 1, gears.fit());
        gears = Make.withPattern(Make.gears(99, 99, 99, 99, 99, 99, 99, -99), 9999);
        Due.is("fit() where all but one are at the limit", 1, gears.fit());
    }
}
