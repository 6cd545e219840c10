/** Compares what the program answers with what is due, and ends a test with exit code 1 if one is wrong. */
final class Due {
    interface Call {
        long on(SquareGears gears);
    }

    private static int asked = 0;
    private static int wrong = 0;
    /** The sentence of the document that is tested now; empty if the test names none. */
    private static String about = "";

    private Due() {
    }

    static void about(String sentence) {
        about = sentence + ": ";
    }

    static void is(String what, long due, long got) {
        asked++;
        if (got != due) {
            wrong++;
            System.out.println(about + what + " answered " + got + ", due is " + due);
        }
    }

    static void isShare(String what, double due, double got) {
        is(what + " (bits)", Double.doubleToLongBits(due), Double.doubleToLongBits(got));
    }

    static void isTrue(String what, boolean holds) {
        is(what, 1, holds ? 1 : 0);
    }

    /** The call throws just this class, not one below it that the machine throws, and nothing is changed. */
    static void isThrown(String what, Class<? extends RuntimeException> due, SquareGears gears, Call call) {
        long before = gears.digest();
        throwsJust(what, due, gears, call);
        is("digest() behind " + what, before, gears.digest());
    }

    static void throwsJust(String what, Class<? extends RuntimeException> due, SquareGears gears, Call call) {
        asked++;
        Class<?> got = null;
        try {
            call.on(gears);
        } catch (RuntimeException thrown) {
            got = thrown.getClass();
        }
        if (got != due) {
            wrong++;
            System.out.println(about + what + " threw " + got + ", due is " + due);
        }
    }

    static void isOutOfBounds(String what, SquareGears gears, Call call) {
        isThrown(what, IndexOutOfBoundsException.class, gears, call);
    }

    static void isBadArgument(String what, SquareGears gears, Call call) {
        isThrown(what, IllegalArgumentException.class, gears, call);
    }

    static void isBadState(String what, SquareGears gears, Call call) {
        isThrown(what, IllegalStateException.class, gears, call);
    }

    static void end(String test) {
        System.out.println(test + ": " + (asked - wrong) + " of " + asked + " answers are as due");
        if (wrong != 0) {
            System.exit(1);
        }
    }
}
