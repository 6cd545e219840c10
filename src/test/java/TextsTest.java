/** Promises 9 to 12: append, clearBuffer, firstError, load. */
public final class TextsTest {
    public static void main(String[] args) {
        testAppend();
        testClearBuffer();
        testFirstError();
        testFullBuffer();
        testLoad();
        testLoadOfWrongTexts();
        Due.end("TextsTest");
    }

    private static void testAppend() {
        SquareGears gears = new SquareGears();
        for (int i = 1; i <= 60; i++) {
            Due.is("append, length " + i, i, gears.append(i % 2 == 0 ? 33 : 126));
        }
        Due.isBadState("append(97) to a full buffer", gears, g -> g.append(97));
        for (int code : new int[] {32, 127, -1, 0, 256 + 97, 65536 + 97, Integer.MIN_VALUE, Integer.MAX_VALUE}) {
            Due.isBadArgument("append(wrong code) to a full buffer", gears, g -> g.append(code));
            Due.isBadArgument("append(wrong code)", new SquareGears(), g -> g.append(code));
        }
        Due.is("append is not saved", 0, gears.count(8));
        Due.is("clearBuffer() of a full buffer", 60, gears.clearBuffer());
        Due.is("append behind clearBuffer", 1, gears.append(97));
    }

    private static void testClearBuffer() {
        SquareGears gears = Make.withText(Make.gears(5), "x!");
        Due.is("clearBuffer()", 2, gears.clearBuffer());
        Due.is("clearBuffer() again", 0, gears.clearBuffer());
        Due.is("clearBuffer is not saved", 1, gears.count(8));
        Due.is("clearBuffer: digest", Make.gears(5).digest(), gears.digest());
    }

    private static void testFirstError() {
        isFirstError("", 0);
        for (char letter = 33; letter <= 126; letter++) {
            boolean wheel = letter >= 'a' && letter <= 'h';
            boolean digit = letter >= '0' && letter <= '9';
            isFirstError("" + letter, wheel ? 1 : 0);
            isFirstError("a" + letter, letter == '=' || letter == '!' ? 2 : 1);
            isFirstError("a=" + letter, digit || letter == '-' ? 3 : 2);
            isFirstError("a=-" + letter, digit && letter != '0' ? 4 : 3);
            isFirstError("a=0" + letter, letter == ';' ? 4 : 3);
            isFirstError("a=1" + letter, digit || letter == ';' ? 4 : 3);
            isFirstError("a=-9" + letter, digit || letter == ';' ? 5 : 4);
            isFirstError("a=10" + letter, letter == ';' ? 5 : 4);
            isFirstError("a=-99" + letter, letter == ';' ? 6 : 5);
            isFirstError("a!" + letter, letter == ';' ? 3 : 2);
            isFirstError("a!;" + letter, wheel ? 4 : 3);
        }
        isFirstError("a=1;b=-99;c=0;d!;a!;h=20", 24);
        isFirstError("a=1;b=01;;;", 7);
        isFirstError("ab=1", 1);
        isFirstError("x;y", 0);
    }

    private static void isFirstError(String text, int due) {
        SquareGears gears = Make.withText(new SquareGears(), text);
        long before = gears.digest();
        Due.is("firstError() of " + text, due, gears.firstError());
        Due.is("firstError() of " + text + ": digest", before, gears.digest());
    }

    private static void testFullBuffer() {
        SquareGears gears = Make.withText(new SquareGears(), "a=10;".repeat(12));
        Due.is("firstError() of a full buffer", 60, gears.firstError());
        Due.isBadArgument("load() of a text that goes on", gears, g -> g.load());
        gears = Make.withText(new SquareGears(), "a!;".repeat(19) + "d=1");
        Due.is("load() of a full buffer", 1, gears.load());
        Make.areLost("load of a full buffer", gears, 0);
    }

    private static void testLoad() {
        SquareGears gears = Make.withPattern(Make.gears(1, 2, 3, 4, 5, 6, 7, 8), 70, -70);
        gears.lose(1);
        gears.lose(2);
        gears.lose(3);
        Make.withText(gears, "b=5;b=-20;h=99;c!;a=0;c=7;d!;g=-9");
        Due.is("load()", 4, gears.load());
        Make.areAmplitudes("load", gears, 0, -20, 7, 0, 0, 0, -9, 99);
        Make.areLost("load", gears, 2, 3);
        Make.isPattern("load", gears, 70, -70, 0, 0, 0, 0, 0, 0);
        Due.is("load clears the buffer", 0, gears.clearBuffer());
        Make.withText(gears, "zz");
        gears.undo();
        Make.areAmplitudes("undo of load", gears, 1, 2, 3, 4, 5, 6, 7, 8);
        Make.areLost("undo of load", gears, 1, 2, 3);
        Due.is("undo leaves the buffer", 2, gears.clearBuffer());
        loads("a=-99;a=99", 1, 99);
        loads("a=-12;a=3", 1, 3);
        loads("a=-12;a=0", 0, 0);
        loads("a=12;b!", 1, 12);
        loads("a!", 0, 0);
        loadsOfLast(new SquareGears(), "h=3", 1, 3);
        loadsOfLast(Make.gears(1, 2, 3), "h!", 0, 0, 7);
        loadsOfLast(new SquareGears(), "h!;h!", 0, 0, 7);
        loadsOfLast(new SquareGears(), "h=-8;h!;h=-9;h!", 1, -9, 7);
        loads("a=0", 0, 0);
    }

    private static void loads(String text, int due, int first) {
        SquareGears gears = Make.withText(Make.gears(77, 76), text);
        Due.is("load() of " + text, due, gears.load());
        Make.areAmplitudes("load of " + text, gears, first, 0, 0, 0, 0, 0, 0, 0);
        Due.is("load() of " + text + " is saved", 3, gears.count(8));
    }

    private static void loadsOfLast(SquareGears gears, String text, int due, int last, int... lost) {
        Due.is("load() of " + text, due, Make.withText(gears, text).load());
        Make.areAmplitudes("load of " + text, gears, 0, 0, 0, 0, 0, 0, 0, last);
        Make.areLost("load of " + text, gears, lost);
    }

    private static void testLoadOfWrongTexts() {
        String[] texts = {"", "a", "a=", "a=-", "a=1;", "a!;", ";", "a=-0", "a=00", "a=100", "i=1", "A=1", "a=1;b",
            "a!!", "a=1b=2", "a==1", "a=--1", "!", "x"};
        for (String text : texts) {
            SquareGears gears = Make.withText(Make.gears(4), text);
            Due.isBadArgument("load() of " + text, gears, g -> g.load());
            Due.is("the buffer behind it", text.length(), gears.clearBuffer());
            Due.is("saved states behind it", 1, gears.count(8));
        }
    }
}
