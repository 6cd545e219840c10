/** Promises 16 to 19: wheelOf, trace, pointOf, count. */
public final class LooksTest {
    public static void main(String[] args) {
        testWheelOf();
        testTrace();
        testPointOf();
        testCount();
        testCountAtEachPoint();
        testOvershoot();
        Due.end("LooksTest");
    }

    private static void testWheelOf() {
        int[] changes = {0, 7, 3, 4, 1, 6, 2, 5};
        SquareGears gears = Make.withPattern(Make.gears(0, -99, 99), 9999, 9999, 9999, 9999, 9999, 9999, 9999, 9999);
        gears.lose(2);
        for (int wheel = 0; wheel < 8; wheel++) {
            Due.is("wheelOf(" + wheel + ", 3)", changes[wheel], gears.wheelOf(wheel, 3));
            Due.is("wheelOf(" + wheel + ", 2)", wheel == 0 ? 9999 : 0, gears.wheelOf(wheel, 2));
        }
        Make.areAmplitudes("wheelOf", gears, 0, -99, 99, 0, 0, 0, 0, 0);
        Make.areLost("wheelOf", gears, 2);
        gears.point(7, 9998);
        Due.is("wheelOf(0, 2), rounded", 9998, gears.wheelOf(0, 2));
        Due.is("wheelOf(1, 2), an eighth", 0, gears.wheelOf(1, 2));
        Due.is("wheelOf(3, 2), less an eighth", -1, gears.wheelOf(3, 2));
        for (int wheel : Make.WRONG_PLACES) {
            Due.isOutOfBounds("wheelOf(wrong wheel, 0)", gears, g -> g.wheelOf(wheel, 0));
            Due.isOutOfBounds("wheelOf(wrong wheel, 4)", gears, g -> g.wheelOf(wheel, 4));
        }
        for (int what : new int[] {-1, 4, Integer.MIN_VALUE, Integer.MAX_VALUE}) {
            Due.isBadArgument("wheelOf(0, wrong what)", gears, g -> g.wheelOf(0, what));
        }
    }

    private static void testTrace() {
        int[][] waves = {
            {1, 1, 1, 1, 1, 1, 1, 1}, {1, -1, 1, -1, 1, -1, 1, -1}, {1, 1, -1, -1, 1, 1, -1, -1},
            {1, -1, -1, 1, 1, -1, -1, 1}, {1, 1, 1, 1, -1, -1, -1, -1}, {1, -1, 1, -1, -1, 1, -1, 1},
            {1, 1, -1, -1, -1, -1, 1, 1}, {1, -1, -1, 1, -1, 1, 1, -1}};
        SquareGears gears = new SquareGears();
        for (int wheel = 0; wheel < 8; wheel++) {
            gears.set(wheel, 1);
            Make.isTrace("the wave of " + wheel, gears, waves[wheel]);
            gears.lose(wheel);
            Make.isTrace("the wave of " + wheel + ", lost", gears, 0, 0, 0, 0, 0, 0, 0, 0);
        }
        gears = Make.gears(99, 99, 99, 99, 99, 99, 99, 99);
        Make.isTrace("all", gears, 792, 0, 0, 0, 0, 0, 0, 0);
        gears = Make.gears(1, 2, 4, 8, 16, 32, 64, -90);
        gears.lose(4);
        Make.isTrace("a sum", gears, 21, 117, 49, -183, 9, -127, -67, 189);
        for (int point : Make.WRONG_PLACES) {
            Due.isOutOfBounds("trace(wrong point, 0)", gears, g -> g.trace(point, 0));
            Due.isOutOfBounds("trace(wrong point, 1)", gears, g -> g.trace(point, 1));
            Due.isOutOfBounds("trace(wrong point, 2)", gears, g -> g.trace(point, 2));
        }
        for (int what : new int[] {-1, 2, Integer.MIN_VALUE, Integer.MAX_VALUE}) {
            Due.isBadArgument("trace(7, wrong what)", gears, g -> g.trace(7, what));
        }
    }

    private static void testPointOf() {
        SquareGears gears = Make.withPattern(Make.gears(10, 20), 5, -5, 9999, -9999, 0, 1, 2, 3);
        int[] differences = {-25, 5, 9969, -9989, -30, 11, -28, 13};
        for (int point = 0; point < 8; point++) {
            Due.is("pointOf(" + point + ", 1)", differences[point], gears.pointOf(point, 1));
            Due.is("pointOf(" + point + ", 2)", point % 2 == 0 ? -40 : 40, gears.pointOf(point, 2));
        }
        Make.isPattern("pointOf", gears, 5, -5, 9999, -9999, 0, 1, 2, 3);
        gears.lose(1);
        Due.is("pointOf(0, 1), lost", -5, gears.pointOf(0, 1));
        Due.is("pointOf(0, 2), lost", 0, gears.pointOf(0, 2));
        gears.set(4, 3);
        Due.is("pointOf(3, 2)", -6, gears.pointOf(3, 2));
        Due.is("pointOf(7, 2), to the point 0", 6, gears.pointOf(7, 2));
        for (int point : Make.WRONG_PLACES) {
            Due.isOutOfBounds("pointOf(wrong point, 2)", gears, g -> g.pointOf(point, 2));
            Due.isOutOfBounds("pointOf(wrong point, 3)", gears, g -> g.pointOf(point, 3));
        }
        for (int what : new int[] {-1, 3, Integer.MIN_VALUE, Integer.MAX_VALUE}) {
            Due.isBadArgument("pointOf(0, wrong what)", gears, g -> g.pointOf(0, what));
        }
    }

    private static void testCount() {
        // The trace is 1, 1, -3, -3, -7, -7, -11, -11, so the greatest jump is the one from the point 7 to 0.
        SquareGears gears = Make.withPattern(Make.gears(-5, 0, 2, 0, 4, 9), 0, -300, 0, 0, 0, 0, 0, 200);
        gears.lose(5);
        areCounts(gears, 4, 1, 1, -11, 301, 12, 6, 0, 6);
        gears = Make.gears(-50);
        areCounts(gears, 1, 0, -50, -50, 50, 0, 0, 0, 1);
        gears = Make.gears(50);
        areCounts(gears, 1, 0, 50, 50, 50, 0, 0, 0, 1);
        // Here it is the one from the point 3 to 4, downwards.
        gears = Make.gears(-7, 0, -1, 0, 30, 0, 1);
        gears.lose(6);
        areCounts(gears, 4, 1, 24, -38, 38, 62, 31, 0, 6);
        for (int what : new int[] {-1, 9, Integer.MIN_VALUE, Integer.MAX_VALUE}) {
            Due.isBadArgument("count(wrong what)", gears, g -> g.count(what));
        }
    }

    private static void areCounts(SquareGears gears, int... due) {
        for (int what = 0; what < due.length; what++) {
            Due.is("count(" + what + ")", due[what], gears.count(what));
        }
    }

    /** With each amplitude the wave at one point, the trace is 8 times as much there, and 0 at all others. */
    private static void testCountAtEachPoint() {
        for (int point = 0; point < 8; point++) {
            SquareGears gears = Make.gears(5, 5, 5, 5, 5, 5, 5, 5);
            gears.turn(point);
            Due.is("the greatest trace, at " + point, 40, gears.count(2));
            Due.is("the least trace beside " + point, 0, gears.count(3));
            Due.is("the greatest difference, at " + point, 40, gears.count(4));
            gears = Make.gears(-5, -5, -5, -5, -5, -5, -5, -5);
            gears.turn(point);
            Due.is("the greatest trace beside " + point, 0, gears.count(2));
            Due.is("the least trace, at " + point, -40, gears.count(3));
            gears.copy();
            gears.point(point, 9999);
            Due.is("the greatest difference, at " + point, 10039, gears.count(4));
            isJumpFound(point);
        }
    }

    /** The pattern is fitted so that just the jump behind one point is as great as 48. */
    private static void isJumpFound(int point) {
        SquareGears gears = Make.withPattern(new SquareGears(), 0, 0, 0, 0, 0, 0, 0, 0);
        gears.point(point, -24);
        gears.point((point + 1) % 8, 24);
        gears.fit();
        Due.is("the jump behind " + point, 48, gears.pointOf(point, 2));
        Due.is("the greatest jump, behind " + point, 48, gears.count(5));
    }

    private static void testOvershoot() {
        SquareGears gears = Make.gears(-30, 7);
        Due.is("overshoot below", 7, gears.count(6));
        gears.set(0, 30);
        Due.is("overshoot above", 7, gears.count(6));
        gears.lose(0);
        Due.is("overshoot with the wheel 0 lost", 7, gears.count(6));
        gears.set(1, 0);
        Due.is("overshoot of nothing", 0, gears.count(6));
        gears.lose(0);
        Due.is("overshoot of the wheel 0", 0, gears.count(6));
    }
}
