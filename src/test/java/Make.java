/** Objects to begin a test with, and looks at many numbers at once. */
final class Make {
    static final int[] WRONG_PLACES = {-1, 8, Integer.MIN_VALUE, Integer.MAX_VALUE};
    /** 60 characters. */
    static final String FULL_TEXT = "a!;".repeat(19) + "d=1";

    private Make() {
    }

    /** The first numbers that are not allowed at both ends, and the last ones that there are. */
    static int[] outside(int least, int greatest) {
        return new int[] {least - 1, greatest + 1, Integer.MIN_VALUE, Integer.MAX_VALUE};
    }

    static SquareGears gears(int... amplitudes) {
        SquareGears gears = new SquareGears();
        for (int wheel = 0; wheel < amplitudes.length; wheel++) {
            gears.set(wheel, amplitudes[wheel]);
        }
        return gears;
    }

    /** With six saved states, snapshots in both slots, and a full buffer that tells wheels; no two of its states are alike. */
    static SquareGears busy() {
        SquareGears gears = gears(99, -99, 5, 0, -7, 30, 0, 1);
        gears.lose(2);
        gears.keep(0);
        withPattern(gears, 800, -9, 17, 0, 9999, -9999, 3, 40);
        gears.fit();
        gears.keep(1);
        gears.set(3, 50);
        gears.lose(5);
        gears.lose(7);
        gears.turn(3);
        gears.drop(51);
        gears.set(1, 0);
        gears.point(6, -4);
        return withText(gears, FULL_TEXT);
    }

    /** With one saved state, a snapshot in the slot 1 alone, and a text that goes on. */
    static SquareGears half() {
        SquareGears gears = gears(12);
        gears.keep(1);
        return withText(gears, "b=7;c");
    }

    static SquareGears withPattern(SquareGears gears, int... numbers) {
        for (int point = 0; point < numbers.length; point++) {
            gears.point(point, numbers[point]);
        }
        return gears;
    }

    static SquareGears withText(SquareGears gears, String text) {
        gears.clearBuffer();
        for (int i = 0; i < text.length(); i++) {
            gears.append(text.charAt(i));
        }
        return gears;
    }

    static void areAmplitudes(String what, SquareGears gears, int... due) {
        for (int wheel = 0; wheel < due.length; wheel++) {
            Due.is(what + ": wheelOf(" + wheel + ", 0)", due[wheel], gears.wheelOf(wheel, 0));
        }
    }

    static void areLost(String what, SquareGears gears, int... lost) {
        int[] due = new int[8];
        for (int wheel : lost) {
            due[wheel] = 1;
        }
        for (int wheel = 0; wheel < 8; wheel++) {
            Due.is(what + ": wheelOf(" + wheel + ", 1)", due[wheel], gears.wheelOf(wheel, 1));
        }
        Due.is(what + ": count(1)", lost.length, gears.count(1));
    }

    static void isTrace(String what, SquareGears gears, int... due) {
        for (int point = 0; point < due.length; point++) {
            Due.is(what + ": trace(" + point + ", 0)", due[point], gears.trace(point, 0));
            Due.is(what + ": trace(" + point + ", 1)", due[point], gears.trace(point, 1));
        }
    }

    static void isPattern(String what, SquareGears gears, int... due) {
        for (int point = 0; point < due.length; point++) {
            Due.is(what + ": pointOf(" + point + ", 0)", due[point], gears.pointOf(point, 0));
        }
    }
}
