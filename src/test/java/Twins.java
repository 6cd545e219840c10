import java.util.Arrays;

/**
 * Two objects made alike. What is asked of one of them must leave it as the other one is, down to all
 * that undo() and goBack(..) bring back, which a digest alone does not see.
 */
final class Twins {
    interface Maker {
        SquareGears make();
    }

    private static final Maker[] MAKERS = {SquareGears::new, Make::half, Make::busy};

    private Twins() {
    }

    /** Of a new object, of one with some states, and of one that is full of them. */
    static void areOutOfBounds(String what, Due.Call call) {
        for (Maker maker : MAKERS) {
            areRefused(what, IndexOutOfBoundsException.class, maker, call);
        }
    }

    static void areBadArguments(String what, Due.Call call) {
        for (Maker maker : MAKERS) {
            areRefused(what, IllegalArgumentException.class, maker, call);
        }
    }

    static void areRefused(String what, Class<? extends RuntimeException> due, Maker maker, Due.Call call) {
        SquareGears asked = maker.make();
        Due.throwsJust(what, due, asked, call);
        Due.isTrue(what + " changes nothing:", Arrays.equals(whole(maker.make()), whole(asked)));
    }

    /** A look changes nothing, nor does it save a state. */
    static void areLeftAlike(String what, Due.Call call) {
        for (Maker maker : MAKERS) {
            SquareGears asked = maker.make();
            call.on(asked);
            Due.isTrue(what + " changes nothing:", Arrays.equals(whole(maker.make()), whole(asked)));
        }
    }

    /** The call saves one state, the one from before it, also where it changes nothing. */
    static void areSavedBefore(String what, Due.Call call) {
        for (Maker maker : MAKERS) {
            SquareGears asked = maker.make();
            long[] before = state(asked);
            int saved = asked.count(8);
            call.on(asked);
            Due.is(what + ": count(8)", Math.min(6, saved + 1), asked.count(8));
            Due.is("undo() of " + what, Math.min(5, saved), asked.undo());
            Due.isTrue("undo of " + what + " brings back the state before it:", Arrays.equals(before, state(asked)));
        }
    }

    /** What a snapshot has. */
    static long[] state(SquareGears gears) {
        long[] state = new long[25];
        for (int i = 0; i < 8; i++) {
            state[i] = gears.wheelOf(i, 0);
            state[8 + i] = gears.wheelOf(i, 1);
            state[16 + i] = gears.pointOf(i, 0);
        }
        state[24] = gears.count(7);
        return state;
    }

    /** All that can be told of an object; it is used up by it. */
    private static long[] whole(SquareGears gears) {
        long[] whole = new long[9];
        int length = 0;
        whole[length++] = gears.digest();
        // goBack drops the oldest one of six saved states, so those are told first.
        while (gears.count(8) > 0) {
            gears.undo();
            whole[length++] = gears.digest();
        }
        for (int slot = 0; slot < 2; slot++) {
            whole[length++] = digestBehindGoBack(gears, slot);
        }
        return whole;
    }

    private static long digestBehindGoBack(SquareGears gears, int slot) {
        try {
            gears.goBack(slot);
        } catch (IllegalStateException none) {
            return 0;
        }
        return gears.digest();
    }
}
