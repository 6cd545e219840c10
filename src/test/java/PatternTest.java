/** Promises 6 to 8: point, copy, fit. */
public final class PatternTest {
    public static void main(String[] args) {
        testPoint();
        testCopy();
        testFit();
        testFitAtEdges();
        testFitCounts();
        Due.end("PatternTest");
    }

    private static void testPoint() {
        SquareGears gears = new SquareGears();
        Due.is("point(0, 9999)", 0, gears.point(0, 9999));
        Due.is("point(0, -9999)", 9999, gears.point(0, -9999));
        Due.is("point(7, 3)", 0, gears.point(7, 3));
        Make.isPattern("point", gears, -9999, 0, 0, 0, 0, 0, 0, 3);
        Due.is("point: saved states", 3, gears.count(8));
        gears.undo();
        Make.isPattern("undo of point", gears, -9999, 0, 0, 0, 0, 0, 0, 0);
        for (int point : Make.WRONG_PLACES) {
            Due.isOutOfBounds("point(wrong point, 0)", gears, g -> g.point(point, 0));
            Due.isOutOfBounds("point(wrong point, 10000)", gears, g -> g.point(point, 10000));
        }
        for (int number : new int[] {-10000, 10000, Integer.MIN_VALUE, Integer.MAX_VALUE}) {
            Due.isBadArgument("point(0, wrong number)", gears, g -> g.point(0, number));
        }
    }

    private static void testCopy() {
        SquareGears gears = Make.gears(10, 3);
        Due.is("copy()", 8, gears.copy());
        Make.isPattern("copy", gears, 13, 7, 13, 7, 13, 7, 13, 7);
        Due.is("copy() again", 0, gears.copy());
        Due.is("copy() again is saved", 4, gears.count(8));
        gears.point(2, 0);
        gears.point(5, 8);
        Due.is("copy() of two points", 2, gears.copy());
        gears.lose(1);
        Due.is("copy() without a lost wheel", 8, gears.copy());
        Make.isPattern("copy without a lost wheel", gears, 10, 10, 10, 10, 10, 10, 10, 10);
        gears.undo();
        Make.isPattern("undo of copy", gears, 13, 7, 13, 7, 13, 7, 13, 7);
        Make.areLost("undo of copy", gears, 1);
    }

    private static void testFit() {
        int[] amplitudes = {-4, 0, 17, 99, -99, 3, 0, -1};
        SquareGears gears = Make.gears(amplitudes);
        gears.copy();
        gears.set(3, 98);
        gears.set(6, 2);
        gears.lose(0);
        gears.lose(6);
        Due.is("fit()", 2, gears.fit());
        Make.areAmplitudes("fit", gears, amplitudes);
        Make.areLost("fit", gears);
        gears.undo();
        Make.areAmplitudes("undo of fit", gears, -4, 0, 17, 98, -99, 3, 2, -1);
        Make.areLost("undo of fit", gears, 0, 6);
    }

    private static void testFitAtEdges() {
        SquareGears gears = Make.withPattern(new SquareGears(), 800, 0, 0, 0, 0, 0, 0, 0);
        Due.is("fit() at 100", 8, gears.fit());
        Make.areAmplitudes("fit at 100", gears, 99, 99, 99, 99, 99, 99, 99, 99);
        gears.point(0, -9999);
        Due.is("fit() far below", 8, gears.fit());
        Make.areAmplitudes("fit far below", gears, -99, -99, -99, -99, -99, -99, -99, -99);
        gears.point(0, 0);
        gears.point(1, 1);
        Due.is("fit() of eighths", 8, gears.fit());
        Make.areAmplitudes("fit of eighths", gears, 0, -1, 0, -1, 0, -1, 0, -1);
        gears.point(1, -9);
        gears.fit();
        Make.areAmplitudes("fit of nine eighths", gears, -2, 1, -2, 1, -2, 1, -2, 1);
    }

    private static void testFitCounts() {
        SquareGears gears = new SquareGears();
        gears.lose(2);
        Due.is("fit() that only finds a wheel", 0, gears.fit());
        Due.is("count(7) behind it", 0, gears.count(7));
        gears.point(0, 8);
        Due.is("fit() of 8", 8, gears.fit());
        Due.is("count(7)", 8, gears.count(7));
        gears.set(4, 5);
        Due.is("fit() of one", 1, gears.fit());
        Due.is("count(7) of both", 9, gears.count(7));
        Due.is("fit() of none", 0, gears.fit());
        Due.is("count(7) behind none", 9, gears.count(7));
        gears.undo();
        gears.undo();
        Due.is("count(7) behind undo", 8, gears.count(7));
        gears.keep(0);
        gears.fit();
        Due.is("count(7) behind fit", 9, gears.count(7));
        gears.goBack(0);
        Due.is("count(7) behind goBack", 8, gears.count(7));
    }
}
