/** The edges of the promises 9 to 12: append, clearBuffer, firstError, load. */
final class EdgesOfTexts {
    private EdgesOfTexts() {
    }

    static void test() {
        testAppend();
        testAppendRefused();
        testClearBuffer();
        testFirstError();
        testFirstErrorOfNone();
        testLoad();
        testLoadTakesWheelsAlone();
        testLoadOfSeveral();
        testLoadOfLost();
        testLoadOfAFullBuffer();
        testLoadAnswers();
        testLoadRefused();
    }

    private static void testAppend() {
        Sentence.of("Promise 9", "Appends a character to the buffer.");
        SquareGears gears = new SquareGears();
        gears.append('a');
        gears.append('!');
        Due.is("append is not undoable: count(8)", 0, gears.count(8));
        gears.load();
        Make.areLost("in the order of the calls", gears, 0);
        Sentence.of("Promise 9", "`code`: the character code, 33 to 126");
        for (int code = 33; code <= 126; code++) {
            gears.clearBuffer();
            Due.is("append(" + code + ")", 1, gears.append(code));
        }
        Sentence.of("Promise 9", "Returns the new length of the buffer.");
        gears.clearBuffer();
        for (int length = 1; length <= 60; length++) {
            Due.is("append(33)", length, gears.append(33));
        }
    }

    private static void testAppendRefused() {
        Sentence.of("Promise 9", "Throws `IllegalArgumentException` if code is not 33 to 126");
        for (int code : Make.outside(33, 126)) {
            Twins.areBadArguments("append(" + code + ")", g -> g.append(code));
        }
        for (int code : new int[] {-1, 0, 10, 128, 255, 256 + 97, 65536 + 97, 97 - 65536}) {
            Twins.areBadArguments("append(" + code + ")", g -> g.append(code));
        }
        Sentence.of("Promise 9", "Throws `IllegalStateException` if the buffer has 60 characters");
        for (int code : new int[] {33, 97, 126}) {
            Twins.areRefused("append(" + code + ")", IllegalStateException.class, Make::busy, g -> g.append(code));
        }
        SquareGears gears = Make.busy();
        gears.clearBuffer();
        Due.is("append(33) behind clearBuffer()", 1, gears.append(33));
    }

    private static void testClearBuffer() {
        Sentence.of("Promise 10", "Clears the buffer.");
        SquareGears gears = Make.half();
        gears.clearBuffer();
        Due.is("clearBuffer is not undoable: count(8)", 1, gears.count(8));
        gears.undo();
        Due.is("undo() does not bring the text back", 0, gears.firstError());
        Make.withText(gears, "h!");
        gears.load();
        Make.areLost("nothing of the text before", gears, 7);
        Sentence.of("Promise 10", "Returns the length that it had.");
        Due.is("clearBuffer() of an empty one", 0, new SquareGears().clearBuffer());
        Due.is("clearBuffer() of one character", 1, Make.withText(new SquareGears(), "x").clearBuffer());
        gears = Make.busy();
        Due.is("clearBuffer() of a full one", 60, gears.clearBuffer());
        Due.is("clearBuffer() again", 0, gears.clearBuffer());
    }

    private static void testFirstError() {
        Sentence.of("Promise 11", "Finds the first syntax error of the buffer.");
        Twins.areLeftAlike("firstError()", g -> g.firstError());
        isFirstError("x!;y!", 0);
        isFirstError("a!;y!;x!", 3);
        isFirstError("a=x=", 2);
        Sentence.of("Promise 11", "Returns the index of the first character that is a syntax error");
        String open = "a!;".repeat(20);
        for (int index = 0; index < 60; index++) {
            isFirstError(open.substring(0, index) + "?" + open.substring(index + 1), index);
        }
    }

    private static void testFirstErrorOfNone() {
        Sentence.of("Promise 11", "the length of the buffer if there is none.");
        String open = "a!;".repeat(18) + "a=-10;";
        for (int length = 0; length <= 60; length++) {
            isFirstError(open.substring(0, length), length);
        }
        isFirstError(Make.FULL_TEXT, 60);
    }

    private static void isFirstError(String text, int due) {
        Due.is("firstError() of " + text, due, Make.withText(new SquareGears(), text).firstError());
    }

    private static void testLoad() {
        Sentence.of("Promise 12", "and clears the buffer. Undoable.");
        Twins.areSavedBefore("load()", g -> Make.withText(g, "a=1;b!").load());
        Twins.areSavedBefore("load() of what is there", g -> Make.withText(g, "a=0").load());
        SquareGears gears = Make.withText(new SquareGears(), "a!");
        gears.load();
        Due.isBadArgument("load() of the cleared buffer", gears, g -> g.load());
        gears.undo();
        Due.is("undo() leaves it clear", 0, gears.clearBuffer());
        Due.is("append(97) behind load()", 1, gears.append(97));
    }

    private static void testLoadTakesWheelsAlone() {
        Sentence.of("Promise 12", "Takes the wheels of the buffer in place of all that there are: amplitudes that it does not tell are 0");
        SquareGears gears = Make.withPattern(Make.gears(9, 8, 7, 6, 5, 4, 3, 2), 80, 1, 2, 3, 4, 5, 6, 7);
        gears.fit();
        gears.keep(0);
        int counted = gears.count(7);
        Make.withText(gears, "h=1").load();
        Make.areAmplitudes("all but one", gears, 0, 0, 0, 0, 0, 0, 0, 1);
        Make.isPattern("the pattern stays", gears, 80, 1, 2, 3, 4, 5, 6, 7);
        Due.is("count(7) stays", counted, gears.count(7));
        Make.withText(gears, "a!").load();
        Make.areAmplitudes("all", gears, 0, 0, 0, 0, 0, 0, 0, 0);
        gears.goBack(0);
        Due.is("the slot stays", counted, gears.count(7));
    }

    private static void testLoadOfSeveral() {
        Sentence.of("Promise 12", "(of several for one wheel the last one counts)");
        isLoaded("a=99;a=-99", 1, -99, 0);
        isLoaded("a=-99;a=99", 1, 99, 0);
        isLoaded("a=99;a=1", 1, 1, 0);
        isLoaded("a=-99;a=0", 0, 0, 0);
        isLoaded("a=0;a=7;a=7", 1, 7, 0);
        isLoaded("a=1;b=2;a=3;b=4", 2, 3, 4);
        isLoaded("a=1;b=2;a=0;b=0", 0, 0, 0);
        isLoaded("b=-2;a=1", 2, 1, -2);
    }

    private static void isLoaded(String text, int due, int first, int second) {
        SquareGears gears = Make.withText(Make.gears(50, 51, 52), text);
        Due.is("load() of " + text, due, gears.load());
        Make.areAmplitudes("load() of " + text, gears, first, second, 0, 0, 0, 0, 0, 0);
        Make.areLost("load() of " + text, gears);
    }

    private static void testLoadOfLost() {
        Sentence.of("Promise 12", "and only those that it tells are lost");
        isLost("a=1");
        isLost("a!", 0);
        isLost("h!", 7);
        isLost("a!;a!", 0);
        isLost("a!;a=5", 0);
        isLost("a=5;a!", 0);
        isLost("a!;b!;c!;d!;e!;f!;g!;h!", 0, 1, 2, 3, 4, 5, 6, 7);
        SquareGears gears = Make.withText(new SquareGears(), "c=5;c!;d!;d=6");
        Due.is("load() of lost wheels with amplitudes", 2, gears.load());
        Make.areAmplitudes("lost wheels with amplitudes", gears, 0, 0, 5, 6, 0, 0, 0, 0);
    }

    private static void isLost(String text, int... due) {
        SquareGears gears = new SquareGears();
        for (int wheel = 0; wheel < 8; wheel += 2) {
            gears.lose(wheel);
        }
        Make.withText(gears, text).load();
        Make.areLost("load() of " + text, gears, due);
    }

    private static void testLoadOfAFullBuffer() {
        Sentence.of("Promise 12", "Takes the wheels of the buffer");
        SquareGears gears = Make.withText(new SquareGears(), "a=-1;a=-2;a=-3;a=-4;a=-5;a=-6;b=-11;c=-22;d=-33;e=-44;f=5;g!");
        Due.is("load() of 60 characters", 6, gears.load());
        Make.areAmplitudes("60 characters", gears, -6, -11, -22, -33, -44, 5, 0, 0);
        Make.areLost("60 characters", gears, 6);
        gears = Make.withText(new SquareGears(), "a!");
        Due.is("load() of the shortest text", 0, gears.load());
    }

    private static void testLoadAnswers() {
        Sentence.of("Promise 12", "Returns how many amplitudes are not 0.");
        Due.is("load() of all wheels", 8, Make.withText(new SquareGears(), "a=1;b=-1;c=9;d=9;e=9;f=9;g=10;h=-99").load());
        Due.is("load() of zeros", 0, Make.withText(Make.gears(1, 2), "a=0;b=0").load());
        Due.is("load() of a wheel told three times", 1, Make.withText(Make.gears(1, 2), "c=1;c=2;c=3").load());
        Due.is("load() of a lost wheel", 1, Make.withText(Make.gears(1, 2), "c=1;c!").load());
    }

    private static void testLoadRefused() {
        Sentence.of("Promise 12", "Throws `IllegalArgumentException` if the buffer does not tell wheels as a text");
        String[] texts = {"", "a", "a=", "a=-", "a=1;", "a!;", "a=1;b", "a=1;b=", "a=1;b=-", ";", "a=-0", "a=00", "a=100",
            "i=1", "a!!", "a=1!", "a=1b=1", "x", "a=1;x", "a=10;".repeat(12), "a!;".repeat(19) + "a=-",
            "a!;".repeat(19) + "a=!", "?".repeat(60)};
        for (String text : texts) {
            Twins.areRefused("load() of a new object with " + text, IllegalArgumentException.class,
                () -> Make.withText(new SquareGears(), text), g -> g.load());
            Twins.areRefused("load() of a busy object with " + text, IllegalArgumentException.class,
                () -> Make.withText(Make.busy(), text), g -> g.load());
        }
    }
}
