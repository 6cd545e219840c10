/** Objects to begin a test with, and looks at many numbers at once. */
final class Make {
    static final int[] WRONG_PLACES = {-1, 8, Integer.MIN_VALUE, Integer.MAX_VALUE};

    private Make() {
    }

    static SquareGears gears(int... amplitudes) {
        SquareGears gears = new SquareGears();
        for (int wheel = 0; wheel < amplitudes.length; wheel++) {
            gears.set(wheel, amplitudes[wheel]);
        }
        return gears;
    }

    static SquareGears withPattern(SquareGears gears, int... numbers) {
        for (int point = 0; point < numbers.length; point++) {
            gears.point(point, numbers[point]);
        }
        return gears;
    }

    static SquareGears withText(SquareGears gears, String text) {
        gears.clearBuffer();
        for (int i = 0; i < text.length(); i++) {
            gears.append(text.charAt(i));
        }
        return gears;
    }

    static void areAmplitudes(String what, SquareGears gears, int... due) {
        for (int wheel = 0; wheel < due.length; wheel++) {
            Due.is(what + ": wheelOf(" + wheel + ", 0)", due[wheel], gears.wheelOf(wheel, 0));
        }
    }

    static void areLost(String what, SquareGears gears, int... lost) {
        int[] due = new int[8];
        for (int wheel : lost) {
            due[wheel] = 1;
        }
        for (int wheel = 0; wheel < 8; wheel++) {
            Due.is(what + ": wheelOf(" + wheel + ", 1)", due[wheel], gears.wheelOf(wheel, 1));
        }
        Due.is(what + ": count(1)", lost.length, gears.count(1));
    }

    static void isTrace(String what, SquareGears gears, int... due) {
        for (int point = 0; point < due.length; point++) {
            Due.is(what + ": trace(" + point + ", 0)", due[point], gears.trace(point, 0));
            Due.is(what + ": trace(" + point + ", 1)", due[point], gears.trace(point, 1));
        }
    }

    static void isPattern(String what, SquareGears gears, int... due) {
        for (int point = 0; point < due.length; point++) {
            Due.is(what + ": pointOf(" + point + ", 0)", due[point], gears.pointOf(point, 0));
        }
    }
}
