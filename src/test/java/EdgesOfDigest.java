import java.math.BigInteger;

/** The edges of the promise 25: digest. */
final class EdgesOfDigest {
    private static final BigInteger FACTOR = BigInteger.valueOf(31);

    private EdgesOfDigest() {
    }

    static void test() {
        testStart();
        testOverflow();
        testErrors();
        testSlots();
        testBuffer();
        testShares();
        testSavedStates();
        testNothingIsChanged();
    }

    private static void testStart() {
        Sentence.of("Promise 25", "The hash starts at 3733.");
        DigestTest.isDigest(new SquareGears(), 0, 0, "");
    }

    /** Without overflow the hash of a new object would have some 500 bits; the lowest 64 are due. */
    private static void testOverflow() {
        Sentence.of("Promise 25", "the hash becomes 31 * hash + v, in long arithmetic with overflow");
        BigInteger hash = BigInteger.valueOf(3733);
        int[] changes = {0, 7, 3, 4, 1, 6, 2, 5};
        hash = behindZeros(hash, 9);
        for (int wheel = 0; wheel < 8; wheel++) {
            hash = behind(behindZeros(hash, 3), changes[wheel]);
        }
        hash = behind(behindZeros(hash, 40), -1);
        hash = behindZeros(hash, 6 + 8 + 1 + 1 + 2 + 1);
        Due.isTrue("the hash is longer than 64 bits:", hash.bitLength() > 64);
        Due.is("digest() of a new object", hash.longValue(), new SquareGears().digest());
    }

    private static BigInteger behind(BigInteger hash, long value) {
        return hash.multiply(FACTOR).add(BigInteger.valueOf(value));
    }

    private static BigInteger behindZeros(BigInteger start, int howMany) {
        BigInteger hash = start;
        for (int i = 0; i < howMany; i++) {
            hash = behind(hash, 0);
        }
        return hash;
    }

    private static void testErrors() {
        Sentence.of("Promise 25", "enough of 0, 1000 and 100000, each with 0, then with 1");
        // Leaving out all wheels costs just these errors, so 1 less would be one wheel more.
        isErrorOfAll(Make.gears(10, -5), 1000);
        isErrorOfAll(Make.gears(99, -51, 7, -7), 100000);
        isErrorOfAll(new SquareGears(), 0);
        DigestTest.isDigest(Make.gears(1), 0, 0, "");
    }

    private static void isErrorOfAll(SquareGears gears, int error) {
        Due.is("enough(" + error + ", 1)", 0, gears.enough(error, 1));
        DigestTest.isDigest(gears, 0, 0, "");
    }

    private static void testSlots() {
        Sentence.of("Promise 25", "for each slot 1 if it has a snapshot, otherwise 0");
        SquareGears gears = new SquareGears();
        gears.keep(1);
        DigestTest.isDigest(gears, 0, 1, "");
        gears.keep(0);
        DigestTest.isDigest(gears, 1, 1, "");
        gears.keep(0);
        DigestTest.isDigest(gears, 1, 1, "");
        gears = new SquareGears();
        gears.keep(0);
        DigestTest.isDigest(gears, 1, 0, "");
    }

    private static void testBuffer() {
        Sentence.of("Promise 25", "the length of the buffer and each of its character codes.");
        DigestTest.isDigest(Make.busy(), 1, 1, Make.FULL_TEXT);
        DigestTest.isDigest(Make.half(), 0, 1, "b=7;c");
        DigestTest.isDigest(Make.withText(new SquareGears(), "!"), 0, 0, "!");
        DigestTest.isDigest(Make.withText(new SquareGears(), "~".repeat(60)), 0, 0, "~".repeat(60));
        SquareGears gears = Make.busy();
        gears.clearBuffer();
        DigestTest.isDigest(gears, 1, 1, "");
        gears.append('x');
        DigestTest.isDigest(gears, 1, 1, "x");
        gears = Make.withText(new SquareGears(), "a=0");
        gears.load();
        DigestTest.isDigest(gears, 0, 0, "");
    }

    private static void testShares() {
        Sentence.of("Promise 25", "the bits of mainShare (as Double.doubleToLongBits)");
        int[] amplitudes = new int[8];
        for (int wheels = 1; wheels <= 8; wheels++) {
            amplitudes[wheels - 1] = wheels % 2 == 0 ? -99 : 99;
            SquareGears gears = Make.gears(amplitudes);
            Due.isShare("the share of one of " + wheels, 1.0 / wheels, gears.mainShare());
            DigestTest.isDigest(gears, 0, 0, "");
            gears.set(0, 98);
            DigestTest.isDigest(gears, 0, 0, "");
            gears.set(0, 1);
            DigestTest.isDigest(gears, 0, 0, "");
        }
    }

    private static void testSavedStates() {
        Sentence.of("Promise 25", "count(0) to count(8)");
        SquareGears gears = new SquareGears();
        for (int calls = 1; calls <= 7; calls++) {
            gears.point(0, 800 * calls);
            gears.fit();
            DigestTest.isDigest(gears, 0, 0, "");
        }
        while (gears.count(8) > 0) {
            gears.undo();
            DigestTest.isDigest(gears, 0, 0, "");
        }
    }

    private static void testNothingIsChanged() {
        Sentence.of("Promise 25", "Computes a hash of the whole state.");
        Twins.areLeftAlike("digest()", g -> g.digest());
        Sentence.of("Promise 25", "Returns the hash.");
        SquareGears gears = Make.busy();
        Due.is("digest() twice", gears.digest(), gears.digest());
        Due.is("digest() of another object", Make.busy().digest(), gears.digest());
    }
}
