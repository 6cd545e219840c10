/** Promise 25: digest, told from the looks of the same object and, for a new one, by hand. */
public final class DigestTest {
    private static long hash;

    public static void main(String[] args) {
        testNew();
        testStates();
        testSlotsAndBuffer();
        testSharesBits();
        Due.end("DigestTest");
    }

    private static void add(long value) {
        hash = 31 * hash + value;
    }

    private static void testNew() {
        int[] changes = {0, 7, 3, 4, 1, 6, 2, 5};
        hash = 3733;
        addZeros(9);
        for (int wheel = 0; wheel < 8; wheel++) {
            addZeros(3);
            add(changes[wheel]);
        }
        addZeros(8 * 5);
        add(-1);
        addZeros(6 + 8 + 1 + 1 + 2 + 1);
        Due.is("digest() of a new object", hash, new SquareGears().digest());
        Due.is("digest() of a new object, a second time", hash, new SquareGears().digest());
    }

    private static void addZeros(int howMany) {
        for (int i = 0; i < howMany; i++) {
            add(0);
        }
    }

    private static void testStates() {
        SquareGears gears = Make.withPattern(Make.gears(1, -20, 3, 40, -5, 60, 7, -80), 1, 20, -300, 4000, 0, 9999);
        isDigest(gears, 0, 0, "");
        gears.lose(7);
        isDigest(gears, 0, 0, "");
        gears.fit();
        isDigest(gears, 0, 0, "");
        gears.undo();
        isDigest(gears, 0, 0, "");
        gears.copy();
        gears.lose(3);
        isDigest(gears, 0, 0, "");
    }

    private static void testSlotsAndBuffer() {
        SquareGears gears = Make.gears(5);
        gears.keep(1);
        isDigest(gears, 0, 1, "");
        gears.keep(0);
        isDigest(gears, 1, 1, "");
        Make.withText(gears, "a=1;~!");
        isDigest(gears, 1, 1, "a=1;~!");
        Make.withText(gears, "b");
        isDigest(gears, 1, 1, "b");
        gears.clearBuffer();
        isDigest(gears, 1, 1, "");
    }

    /** Many shares, so that each exponent and odd last bits come up. */
    private static void testSharesBits() {
        for (int first = 1; first <= 99; first += 7) {
            for (int second = 0; second <= 99; second += 3) {
                SquareGears gears = Make.gears(first, second, second, second, -second, first);
                isDigest(gears, 0, 0, "");
            }
        }
    }

    static void isDigest(SquareGears gears, int firstSlot, int secondSlot, String buffer) {
        hash = 3733;
        for (int what = 0; what <= 8; what++) {
            add(gears.count(what));
        }
        for (int wheel = 0; wheel < 8; wheel++) {
            for (int what = 0; what <= 3; what++) {
                add(gears.wheelOf(wheel, what));
            }
        }
        for (int point = 0; point < 8; point++) {
            add(gears.trace(point, 0));
            add(gears.trace(point, 1));
            for (int what = 0; what <= 2; what++) {
                add(gears.pointOf(point, what));
            }
        }
        add(gears.findLost());
        for (int error : new int[] {0, 1000, 100000}) {
            add(gears.enough(error, 0));
            add(gears.enough(error, 1));
        }
        for (int point = 0; point < 8; point++) {
            add(gears.ifTurned(5, point));
        }
        add(gears.bestTurn());
        add(Double.doubleToLongBits(gears.mainShare()));
        add(firstSlot);
        add(secondSlot);
        add(buffer.length());
        for (int i = 0; i < buffer.length(); i++) {
            add(buffer.charAt(i));
        }
        Due.is("digest()", hash, gears.digest());
    }
}
