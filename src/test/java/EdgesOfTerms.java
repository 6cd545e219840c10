import java.util.Arrays;

/** The edges that the document names ahead of its promises: under "What it is" and "Terms". */
final class EdgesOfTerms {
    private EdgesOfTerms() {
    }

    static void test() {
        testMostCalls();
        testDivisions();
        testWheels();
        testLostWheels();
        testPoints();
        testWave();
        testTrace();
        testPattern();
        testDifference();
        testPatternAmplitude();
        testErrors();
        testMostCharacters();
        testOneOrMoreWheels();
        testLetters();
        testAmplitudesOfTexts();
        testLostOfTexts();
        testFirstOfNoText();
        testSlots();
        testSavedStates();
        testMostSavedStates();
        testRefusedCalls();
        testSeveralExceptions();
        testNone();
    }

    private static void testMostCalls() {
        Sentence.of("What it is", "An object is used for at most 512 calls after it has been made");
        SquareGears gears = new SquareGears();
        for (int call = 1; call <= 510; call++) {
            gears.set(call % 8, call % 100);
        }
        Due.is("the call 511, undo()", 5, gears.undo());
        Due.is("the call 512, wheelOf(6, 0)", 502 % 100, gears.wheelOf(6, 0));
        gears = Make.gears(5);
        for (int call = 2; call <= 511; call++) {
            Due.throwsJust("the call " + call, IllegalArgumentException.class, gears, g -> g.turn(8));
        }
        Due.is("the call 512, set(0, 6)", 5, gears.set(0, 6));
    }

    private static void testDivisions() {
        Sentence.of("Terms", "All numbers are integers, but for a share; divisions are rounded down.");
        int[] sums = {-17, -16, -9, -8, -7, -1, 0, 1, 7, 8, 15, 16};
        int[] eighths = {-3, -2, -2, -1, -1, -1, 0, 0, 0, 1, 1, 2};
        for (int i = 0; i < sums.length; i++) {
            SquareGears gears = Make.withPattern(new SquareGears(), sums[i]);
            Due.is("wheelOf(7, 2) of the sum " + sums[i], eighths[i], gears.wheelOf(7, 2));
        }
        Due.isShare("a share is not rounded", 0.5, Make.gears(1, -1).mainShare());
    }

    private static void testWheels() {
        Sentence.of("Terms", "There are 8 wheels, numbered from 0, each with an amplitude, -99 to 99, at first 0.");
        SquareGears gears = new SquareGears();
        for (int wheel = 0; wheel < 8; wheel++) {
            Due.is("set(" + wheel + ", -99), at first", 0, gears.set(wheel, -99));
            Due.is("set(" + wheel + ", 99)", -99, gears.set(wheel, 99));
            Due.is("wheelOf(" + wheel + ", 0)", 99, gears.wheelOf(wheel, 0));
        }
        Twins.areOutOfBounds("lose(-1)", g -> g.lose(-1));
        Twins.areOutOfBounds("lose(8)", g -> g.lose(8));
        Twins.areBadArguments("set(0, -100)", g -> g.set(0, -100));
        Twins.areBadArguments("set(7, 100)", g -> g.set(7, 100));
    }

    private static void testLostWheels() {
        Sentence.of("Terms", "A wheel can be lost; at first none is.");
        SquareGears gears = new SquareGears();
        Make.areLost("at first", gears);
        for (int wheel = 0; wheel < 8; wheel++) {
            gears.lose(wheel);
        }
        Make.areLost("each one", gears, 0, 1, 2, 3, 4, 5, 6, 7);
    }

    private static void testPoints() {
        Sentence.of("Terms", "The drum has 8 points, numbered from 0.");
        SquareGears gears = new SquareGears();
        Due.is("point(0, 1)", 0, gears.point(0, 1));
        Due.is("point(7, 2)", 0, gears.point(7, 2));
        Make.isPattern("the first and the last point", gears, 1, 0, 0, 0, 0, 0, 0, 2);
        Twins.areOutOfBounds("trace(-1, 0)", g -> g.trace(-1, 0));
        Twins.areOutOfBounds("trace(8, 0)", g -> g.trace(8, 0));
    }

    private static void testWave() {
        Sentence.of("Terms", "is 1, if the bits that both k and n have are an even number, otherwise -1.");
        isWave("no bits of either", 0, 0, 1);
        isWave("no bits of the wheel", 0, 7, 1);
        isWave("no bits of the point", 7, 0, 1);
        isWave("bits, but none of both", 5, 2, 1);
        isWave("one bit, the lowest", 1, 1, -1);
        isWave("one bit, the highest", 4, 4, -1);
        isWave("one bit of three", 7, 2, -1);
        isWave("two bits", 6, 7, 1);
        isWave("two bits of each", 3, 3, 1);
        isWave("three bits", 7, 7, -1);
    }

    private static void isWave(String what, int wheel, int point, int due) {
        SquareGears gears = new SquareGears();
        gears.set(wheel, 1);
        Due.is(what + ": trace(" + point + ", 0) of the wheel " + wheel, due, gears.trace(point, 0));
        Due.is(what + ": trace(" + point + ", 1) of the wheel " + wheel, due, gears.trace(point, 1));
    }

    private static void testTrace() {
        Sentence.of("Terms", "The trace at a point is the sum, over all wheels that are not lost, of the amplitude times the wave there.");
        SquareGears gears = Make.gears(99, 99, 99, 99, 99, 99, 99, 99);
        Make.isTrace("the greatest one", gears, 792, 0, 0, 0, 0, 0, 0, 0);
        gears.turn(7);
        Make.isTrace("the greatest one at the point 7", gears, 0, 0, 0, 0, 0, 0, 0, 792);
        for (int wheel = 0; wheel < 7; wheel++) {
            gears.lose(wheel);
        }
        Make.isTrace("all but one are lost", gears, -99, 99, 99, -99, 99, -99, -99, 99);
        gears.lose(7);
        Make.isTrace("all are lost", gears, 0, 0, 0, 0, 0, 0, 0, 0);
        Make.isTrace("the least one", Make.gears(-99, -99, -99, -99, -99, -99, -99, -99), -792, 0, 0, 0, 0, 0, 0, 0);
    }

    private static void testPattern() {
        Sentence.of("Terms", "The pattern has a number for each point, -9999 to 9999, at first 0.");
        SquareGears gears = new SquareGears();
        for (int point = 0; point < 8; point++) {
            Due.is("point(" + point + ", -9999), at first", 0, gears.point(point, -9999));
            Due.is("point(" + point + ", 9999)", -9999, gears.point(point, 9999));
            Due.is("pointOf(" + point + ", 0)", 9999, gears.pointOf(point, 0));
        }
        Twins.areBadArguments("point(0, -10000)", g -> g.point(0, -10000));
        Twins.areBadArguments("point(7, 10000)", g -> g.point(7, 10000));
    }

    private static void testDifference() {
        Sentence.of("Terms", "The difference at a point is the pattern less the trace.");
        SquareGears gears = Make.gears(99, 99, 99, 99, 99, 99, 99, 99);
        gears.point(0, -9999);
        Due.is("the least difference", -10791, gears.pointOf(0, 1));
        gears.point(0, 792);
        Due.is("no difference", 0, gears.pointOf(0, 1));
        gears = Make.withPattern(Make.gears(-99, -99, -99, -99, -99, -99, -99, -99), 9999);
        Due.is("the greatest difference", 10791, gears.pointOf(0, 1));
    }

    private static void testPatternAmplitude() {
        Sentence.of("Terms", "divided by 8 (rounded towards the lesser number).");
        SquareGears gears = Make.withPattern(new SquareGears(), 9999, -9999, 9999, -9999, 9999, -9999, 9999, -9999);
        Due.is("the greatest one", 9999, gears.wheelOf(1, 2));
        Due.is("none", 0, gears.wheelOf(0, 2));
        gears.point(0, 9998);
        Due.is("an eighth less than the greatest one", 9998, gears.wheelOf(1, 2));
        Due.is("an eighth less than none", -1, gears.wheelOf(0, 2));
        gears = Make.withPattern(new SquareGears(), -9999, 9999, -9999, 9999, -9999, 9999, -9999, 9999);
        Due.is("the least one", -9999, gears.wheelOf(1, 2));
        gears.point(0, -9998);
        Due.is("an eighth more than the least one", -9999, gears.wheelOf(1, 2));
        Due.is("an eighth more than none", 0, gears.wheelOf(0, 2));
    }

    private static void testErrors() {
        Sentence.of("Terms", "that is 8 times the squares of their amplitudes, together.");
        isError("the least error", Make.gears(-1), 8);
        isError("a wheel's greatest error", Make.gears(0, 0, 0, 0, 0, 0, 0, -99), 78408);
        isError("two wheels' error", Make.gears(3, 0, -4), 200);
        isError("the greatest error", Make.gears(99, -99, 99, -99, 99, -99, 99, -99), 627264);
        SquareGears gears = Make.gears(3, 50, -4);
        gears.lose(1);
        isError("the error without a lost wheel", gears, 200);
    }

    /** The error of leaving out all wheels. */
    private static void isError(String what, SquareGears gears, int due) {
        for (int way = 0; way <= 1; way++) {
            Due.is(what + ", told by " + way, 0, gears.enough(due, way));
            Due.is(what + ", and 1 less, told by " + way, 1, gears.enough(due - 1, way));
        }
    }

    private static void testMostCharacters() {
        Sentence.of("Terms", "The buffer has at most 60 characters.");
        SquareGears gears = Make.withText(new SquareGears(), "~".repeat(59));
        Due.is("append(33), the last one", 60, gears.append(33));
        Twins.areRefused("append(33) to 60", IllegalStateException.class, Make::busy, g -> g.append(33));
        Due.is("clearBuffer()", 60, gears.clearBuffer());
    }

    private static void testOneOrMoreWheels() {
        Sentence.of("Terms", "Wheels as a text are one or more of these with \";\" between them");
        loads("one", "a=1");
        loads("two", "a=1;b=2");
        loads("the most that there is room for", "a!;".repeat(18) + "a!;b=1");
        isRefused("none", "", 0);
        isRefused("a sign between nothing", ";", 0);
        isRefused("none ahead", ";a=1", 0);
        isRefused("none behind", "a=1;", 4);
        isRefused("none between", "a=1;;b=2", 4);
        isRefused("nothing between two", "a!b!", 2);
        isRefused("another sign between two", "a=1,b=2", 3);
    }

    private static void testLetters() {
        Sentence.of("Terms", "a letter \"a\" to \"h\" for the wheel 0 to 7");
        Make.areAmplitudes("a", loads("the first letter", "a=9"), 9, 0, 0, 0, 0, 0, 0, 0);
        Make.areAmplitudes("h", loads("the last letter", "h=9"), 0, 0, 0, 0, 0, 0, 0, 9);
        Make.areLost("h!", loads("the last letter, lost", "h!"), 7);
        isRefused("the sign ahead of a", "`=9", 0);
        isRefused("the letter behind h", "i=9", 0);
        isRefused("a capital letter", "A=9", 0);
        isRefused("the letter behind h, lost", "a!;i!", 3);
        isRefused("a number for a wheel", "0=9", 0);
        isRefused("two letters", "aa=9", 1);
    }

    private static void testAmplitudesOfTexts() {
        Sentence.of("Terms", "perhaps \"-\", and 0 to 99 without leading zeros (there is no \"-0\")");
        for (int amplitude = -99; amplitude <= 99; amplitude++) {
            SquareGears gears = loads("an amplitude", "e=" + amplitude);
            Due.is("the amplitude of e=" + amplitude, amplitude, gears.wheelOf(4, 0));
        }
        isRefused("100", "e=100", 4);
        isRefused("-100", "e=-100", 5);
        isRefused("000", "e=000", 3);
        isRefused("01", "e=01", 3);
        isRefused("-01", "e=-01", 3);
        isRefused("-0", "e=-0", 3);
        isRefused("no number", "e=", 2);
        isRefused("no number, and another wheel", "e=;a=1", 2);
        isRefused("no number behind -", "e=-", 3);
        isRefused("no number behind -, and another wheel", "e=-;a=1", 3);
        isRefused("two -", "e=--1", 3);
        isRefused("- behind the number", "e=1-", 3);
        isRefused("+", "e=+1", 2);
        isRefused("no =", "e1", 1);
        isRefused("two =", "e==1", 2);
        isRefused("the sign ahead of 0", "e=/", 2);
        isRefused("the sign behind 9", "e=:", 2);
        isRefused("the sign ahead of 0 as a second one", "e=9/", 3);
        isRefused("the sign behind 9 as a second one", "e=9:", 3);
    }

    private static void testLostOfTexts() {
        Sentence.of("Terms", "or a letter and \"!\" (it is lost)");
        Make.areLost("lost", loads("lost", "c!"), 2);
        Make.areLost("lost twice", loads("lost twice", "c!;c!"), 2);
        isRefused("two signs", "c!!", 2);
        isRefused("a sign without a letter", "!", 0);
        isRefused("a sign behind =", "c=!", 2);
        isRefused("a sign behind an amplitude", "c=5!", 3);
        isRefused("an amplitude behind the sign", "c!=5", 2);
    }

    private static SquareGears loads(String what, String text) {
        SquareGears gears = Make.withText(Make.gears(77, 76, 75, 74, 73, 72, 71, 70), text);
        Due.is(what + ": firstError() of " + text, text.length(), gears.firstError());
        gears.load();
        return gears;
    }

    private static void isRefused(String what, String text, int firstError) {
        Due.is(what + ": firstError() of " + text, firstError, Make.withText(new SquareGears(), text).firstError());
        Twins.areRefused(what + ": load() of " + text, IllegalArgumentException.class,
            () -> Make.withText(Make.gears(77), text), g -> g.load());
    }

    private static void testFirstOfNoText() {
        Sentence.of("Terms", "a character is a syntax error if no wheels as a text, of any length, begin with the characters before it and this character.");
        // All of these are full, so what they begin would be longer than the buffer.
        isFullAndOpen("a=10;".repeat(12));
        isFullAndOpen("a!;".repeat(19) + "a=-");
        isFullAndOpen("a!;".repeat(19) + "b=9");
        isFullAndOpen("a!;".repeat(18) + "a=10;b");
        isFullAndOpen("a!;".repeat(18) + "a=1;b=");
        String wrong = "a!;".repeat(19) + "a=0";
        Due.is("firstError() of a full one that ends with 0", 60, Make.withText(new SquareGears(), wrong).firstError());
        String last = "a!;".repeat(19) + "a=!";
        Due.is("firstError() at the last character", 59, Make.withText(new SquareGears(), last).firstError());
        Due.is("firstError() at the first character", 0, Make.withText(new SquareGears(), "x!;y!").firstError());
        Due.is("firstError() of two errors", 3, Make.withText(new SquareGears(), "a!;!!").firstError());
    }

    private static void isFullAndOpen(String text) {
        SquareGears gears = Make.withText(new SquareGears(), text);
        Due.is("firstError() of a full buffer, " + text, 60, gears.firstError());
        Due.is("its length", 60, gears.clearBuffer());
    }

    private static void testSlots() {
        Sentence.of("Terms", "There are two slots; a snapshot is all but the buffer, the slots and the saved states.");
        SquareGears gears = Make.half();
        gears.keep(0);
        long[] kept = Twins.state(gears);
        gears.keep(1);
        Make.withPattern(gears, 80, 1, 2, 3, 4, 5, 6, 7);
        gears.fit();
        gears.lose(7);
        gears.lose(6);
        gears.keep(1);
        Make.withText(gears, "other");
        Due.is("goBack(0)", 1, gears.goBack(0));
        Due.isTrue("the state in the slot 0 is back", Arrays.equals(kept, Twins.state(gears)));
        Due.is("the saved states stay", 6, gears.count(8));
        Due.is("the buffer stays", 5, gears.clearBuffer());
        gears.goBack(1);
        Make.areLost("the slot 1 stays", gears, 6, 7);
        Twins.areBadArguments("keep(-1)", g -> g.keep(-1));
        Twins.areBadArguments("keep(2)", g -> g.keep(2));
    }

    private static void testSavedStates() {
        Sentence.of("Terms", "saves the state from before it (also if it changes nothing): all, also what is counted so far, but the buffer, the slots and the saved states.");
        SquareGears gears = new SquareGears();
        gears.lose(4);
        gears.copy();
        Due.is("count(8) behind a call that changes nothing", 2, gears.count(8));
        gears.point(3, 80);
        long[] before = Twins.state(gears);
        gears.fit();
        gears.keep(0);
        Make.withText(gears, "a=1");
        Due.is("undo()", 3, gears.undo());
        Due.isTrue("the state from before fit() is back", Arrays.equals(before, Twins.state(gears)));
        Due.is("count(7) is back", 0, gears.count(7));
        Due.is("the buffer stays", 3, gears.clearBuffer());
        Due.is("the slot stays", 8, gears.goBack(0));
        Due.is("count(7) of the slot", 8, gears.count(7));
    }

    private static void testMostSavedStates() {
        Sentence.of("Terms", "At most 6 states are saved; the oldest one is dropped first.");
        for (int calls = 5; calls <= 20; calls++) {
            SquareGears gears = new SquareGears();
            for (int amplitude = 1; amplitude <= calls; amplitude++) {
                gears.set(0, amplitude);
            }
            int most = Math.min(6, calls);
            Due.is("count(8) behind " + calls + " calls", most, gears.count(8));
            for (int undone = 1; undone <= most; undone++) {
                Due.is("undo() behind " + calls + " calls", most - undone, gears.undo());
                Due.is("the state behind it", calls - undone, gears.wheelOf(0, 0));
            }
            Due.isBadState("undo() behind the last one", gears, g -> g.undo());
        }
    }

    private static void testRefusedCalls() {
        Sentence.of("Terms", "A call that throws an exception changes nothing (the buffer stays as it is, too).");
        SquareGears gears = Make.withText(Make.busy(), "a=1;b=");
        Due.isBadArgument("load()", gears, g -> g.load());
        Due.is("the text goes on behind it", 7, gears.append('7'));
        Due.is("load() behind it", 2, gears.load());
        Make.areAmplitudes("load() behind it", gears, 1, 7, 0, 0, 0, 0, 0, 0);
        Twins.areRefused("append(97) to a full buffer", IllegalStateException.class, Make::busy, g -> g.append(97));
        Twins.areRefused("goBack(0)", IllegalStateException.class, Make::half, g -> g.goBack(0));
        Twins.areRefused("undo()", IllegalStateException.class, SquareGears::new, g -> g.undo());
    }

    private static void testSeveralExceptions() {
        Sentence.of("Terms", "If several exceptions apply, the one that is named first in the throws clause is thrown.");
        Twins.areOutOfBounds("set(8, 100)", g -> g.set(8, 100));
        Twins.areOutOfBounds("point(8, 10000)", g -> g.point(8, 10000));
        Twins.areRefused("append(32) to 60", IllegalArgumentException.class, Make::busy, g -> g.append(32));
        Twins.areRefused("goBack(2) without a snapshot", IllegalArgumentException.class, SquareGears::new, g -> g.goBack(2));
        Twins.areOutOfBounds("wheelOf(8, 4)", g -> g.wheelOf(8, 4));
        Twins.areOutOfBounds("trace(8, 2)", g -> g.trace(8, 2));
        Twins.areOutOfBounds("pointOf(8, 3)", g -> g.pointOf(8, 3));
        Twins.areOutOfBounds("ifTurned(8, 8)", g -> g.ifTurned(8, 8));
    }

    private static void testNone() {
        Sentence.of("Terms", "The constants: `NONE = -1`: There is nothing to return.");
        Due.is("NONE", -1, SquareGears.NONE);
        Due.is("findLost() of a new object", SquareGears.NONE, new SquareGears().findLost());
    }
}
