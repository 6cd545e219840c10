/** Promises 20 to 24: findLost, enough, ifTurned, bestTurn, mainShare. */
public final class WouldBeTest {
    public static void main(String[] args) {
        testFindLost();
        testFindLostOfNone();
        testEnough();
        testEnoughOfWrongNumbers();
        testIfTurned();
        testBestTurn();
        testMainShare();
        testNothingIsChanged();
        Due.end("WouldBeTest");
    }

    private static void testFindLost() {
        for (int wheel = 0; wheel < 8; wheel++) {
            SquareGears gears = Make.gears(3, -6, 9, 12, -15, 18, 21, -24);
            gears.copy();
            gears.lose(wheel);
            Due.is("findLost() of " + wheel, wheel, gears.findLost());
            Due.is("findLost() of " + wheel + ": count(4)", 3 * (wheel + 1), gears.count(4));
            gears.lose(wheel);
            gears.set(wheel, 1);
            Due.is("findLost() of another amplitude of " + wheel, wheel, gears.findLost());
        }
        SquareGears gears = Make.withPattern(new SquareGears(), 1, 1, -1, -1, -1, -1, 1, 1);
        Due.is("findLost() of a pattern alone", 6, gears.findLost());
        gears = Make.withPattern(new SquareGears(), -9999, 9999, -9999, 9999, -9999, 9999, -9999, 9999);
        Due.is("findLost() of a large pattern", 1, gears.findLost());
    }

    private static void testFindLostOfNone() {
        SquareGears gears = Make.gears(1, 2);
        Due.is("findLost() of two wheels", -1, gears.findLost());
        gears.copy();
        Due.is("findLost() without a difference", -1, gears.findLost());
        gears.point(0, 4);
        Due.is("findLost() of one point", -1, gears.findLost());
        gears = Make.withPattern(new SquareGears(), 5, 5, 5, 5, 5, 5, 5, 4);
        Due.is("findLost() of almost one number", -1, gears.findLost());
        gears = Make.withPattern(new SquareGears(), 0, 1, 1, 1, 1, 1, 1, 1);
        Due.is("findLost() of 0 at the point 0", -1, gears.findLost());
        gears = Make.withPattern(new SquareGears(), 1, 1, 1, 1, -1, -1, -1, 1);
        Due.is("findLost() of no wave", -1, gears.findLost());
    }

    private static void testEnough() {
        SquareGears gears = Make.gears(1, -2, 0, 3, 10, -50);
        isEnough(gears, 0, 5);
        isEnough(gears, 7, 5);
        isEnough(gears, 8, 4);
        isEnough(gears, 39, 4);
        isEnough(gears, 40, 3);
        isEnough(gears, 111, 3);
        isEnough(gears, 112, 2);
        isEnough(gears, 911, 2);
        isEnough(gears, 912, 1);
        isEnough(gears, 20911, 1);
        isEnough(gears, 20912, 0);
        isEnough(gears, 9999999, 0);
        gears.lose(5);
        isEnough(gears, 0, 4);
        isEnough(gears, 911, 1);
        isEnough(gears, 912, 0);
        isEnough(new SquareGears(), 0, 0);
        gears = Make.gears(2, 1, 1, 1, 1, 1, 1, 10);
        isEnough(gears, 48, 2);
        isEnough(gears, 79, 2);
        isEnough(gears, 80, 1);
        isEnough(gears, 879, 1);
        gears = Make.gears(99, -99, 99, -99, 99, -99, 99, -99);
        isEnough(gears, 78407, 8);
        isEnough(gears, 78408, 7);
        isEnough(gears, 627263, 1);
        isEnough(gears, 627264, 0);
    }

    private static void isEnough(SquareGears gears, int error, int due) {
        Due.is("enough(" + error + ", 0)", due, gears.enough(error, 0));
        Due.is("enough(" + error + ", 1)", due, gears.enough(error, 1));
    }

    private static void testEnoughOfWrongNumbers() {
        SquareGears gears = Make.gears(4, 5);
        for (int error : new int[] {-1, 10000000, Integer.MIN_VALUE, Integer.MAX_VALUE}) {
            Due.isBadArgument("enough(wrong error, 0)", gears, g -> g.enough(error, 0));
            Due.isBadArgument("enough(wrong error, 1)", gears, g -> g.enough(error, 1));
        }
        for (int what : new int[] {-1, 2, Integer.MIN_VALUE, Integer.MAX_VALUE}) {
            Due.isBadArgument("enough(0, wrong what)", gears, g -> g.enough(0, what));
        }
    }

    private static void testIfTurned() {
        for (int by = 0; by < 8; by++) {
            SquareGears gears = Make.gears(1, 2, 4, 8, 16, 32, 64, -90);
            gears.lose(4);
            SquareGears turned = Make.gears(1, 2, 4, 8, 16, 32, 64, -90);
            turned.lose(4);
            turned.turn(by);
            for (int point = 0; point < 8; point++) {
                Due.is("ifTurned(" + by + ", " + point + ")", turned.trace(point, 0), gears.ifTurned(by, point));
            }
        }
        SquareGears gears = Make.gears(0, 7);
        Due.is("ifTurned(1, 0)", -7, gears.ifTurned(1, 0));
        Due.is("ifTurned(1, 1)", 7, gears.ifTurned(1, 1));
        for (int place : Make.WRONG_PLACES) {
            Due.isOutOfBounds("ifTurned(0, wrong point)", gears, g -> g.ifTurned(0, place));
            Due.isOutOfBounds("ifTurned(8, wrong point)", gears, g -> g.ifTurned(8, place));
            Due.isBadArgument("ifTurned(wrong number, 0)", gears, g -> g.ifTurned(place, 0));
        }
    }

    private static void testBestTurn() {
        for (int by = 0; by < 8; by++) {
            SquareGears gears = Make.gears(1, 2, 4, 8, 16, 32, 64, -90);
            gears.turn(by);
            gears.copy();
            gears.turn(by);
            Due.is("bestTurn() of " + by, by, gears.bestTurn());
        }
        Due.is("bestTurn() of a new object", 0, new SquareGears().bestTurn());
        SquareGears gears = Make.withPattern(Make.gears(0, 0, 5), -5, -5, 5, 5, -5, -5, 5, 5);
        Due.is("bestTurn() of several", 2, gears.bestTurn());
        for (int point = 0; point < 8; point++) {
            gears = Make.gears(5, 5, 5, 5, 5, 5, 5, 5);
            gears.turn(3);
            gears.point(point, 40);
            Due.is("bestTurn() to the point " + point, point ^ 3, gears.bestTurn());
            gears.point(point ^ 1, 39);
            Due.is("bestTurn() to the greater of two, " + point, point ^ 3, gears.bestTurn());
        }
        // The squares of the differences would have 0 as the best turn.
        gears = Make.withPattern(Make.gears(0, 10), 1000, 0, -10, 0, -10);
        Due.is("bestTurn() of sums: differences if not turned", 1080, differences(gears, 0));
        Due.is("bestTurn() of sums: differences if turned", 1060, differences(gears, 1));
        Due.is("bestTurn() of sums", 1, gears.bestTurn());
    }

    private static int differences(SquareGears gears, int by) {
        int sum = 0;
        for (int point = 0; point < 8; point++) {
            sum += Math.abs(gears.pointOf(point, 0) - gears.ifTurned(by, point));
        }
        return sum;
    }

    private static void testMainShare() {
        SquareGears gears = new SquareGears();
        Due.isShare("mainShare() of nothing", 0.0, gears.mainShare());
        gears.set(3, -4);
        Due.isShare("mainShare() of one", 1.0, gears.mainShare());
        gears.set(0, 3);
        Due.isShare("mainShare() of a negative one", 16.0 / 25.0, gears.mainShare());
        gears.set(5, 12);
        Due.isShare("mainShare() of three", 144.0 / 169.0, gears.mainShare());
        gears.lose(5);
        Due.isShare("mainShare() of two", 16.0 / 25.0, gears.mainShare());
        gears.lose(3);
        gears.lose(0);
        Due.isShare("mainShare() of lost ones", 0.0, gears.mainShare());
        gears = Make.gears(99, 99, -99, 99, 99, 99, 99, 99);
        Due.isShare("mainShare() of eight", 0.125, gears.mainShare());
        gears.set(2, 1);
        Due.isShare("mainShare() of seven", 9801.0 / 68608.0, gears.mainShare());
    }

    private static void testNothingIsChanged() {
        SquareGears gears = Make.withPattern(Make.gears(5, 6, 7), 70, 80);
        gears.lose(1);
        long before = gears.digest();
        gears.findLost();
        gears.enough(100, 0);
        gears.enough(100, 1);
        gears.ifTurned(3, 3);
        gears.bestTurn();
        gears.mainShare();
        gears.trace(1, 1);
        Due.is("digest() behind looks", before, gears.digest());
        Make.areAmplitudes("looks", gears, 5, 6, 7, 0, 0, 0, 0, 0);
    }
}
