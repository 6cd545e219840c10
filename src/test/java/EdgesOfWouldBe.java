/** The edges of the promises 20 to 24: findLost, enough, ifTurned, bestTurn, mainShare. */
final class EdgesOfWouldBe {
    private static final int[] ALL_GREATEST = {99, -99, 99, -99, 99, -99, 99, -99};

    private EdgesOfWouldBe() {
    }

    static void test() {
        testFindLost();
        testFindLostOfNone();
        testEnoughByDropping();
        testEnoughOfAlike();
        testEnoughBySets();
        testEnoughErrors();
        testEnoughRefused();
        testIfTurned();
        testIfTurnedRefused();
        testBestTurn();
        testBestTurnOfSeveral();
        testMainShare();
    }

    private static void testFindLost() {
        Sentence.of("Promise 20", "Finds the wheel that explains the difference.");
        Twins.areLeftAlike("findLost()", g -> g.findLost());
        Sentence.of("Promise 20", "Returns the wheel so that the difference at each point is one number other than 0 times its wave");
        for (int wheel = 0; wheel < 8; wheel++) {
            for (int number : new int[] {1, -1, 99, -99}) {
                SquareGears gears = Make.gears(10, 20, 30, 40, 50, 60, 70, 80);
                gears.set(wheel, number);
                gears.copy();
                Due.is("findLost() of no difference", SquareGears.NONE, gears.findLost());
                gears.lose(wheel);
                Due.is("findLost() of " + number, wheel, gears.findLost());
                gears.lose(wheel);
                gears.set(wheel, 0);
                Due.is("findLost() of " + number + ", not lost", wheel, gears.findLost());
            }
        }
        for (int number : new int[] {9999, -9999}) {
            SquareGears gears = Make.withPattern(new SquareGears(), number, number, -number, -number, -number, -number, number, number);
            Due.is("findLost() of a pattern of " + number, 6, gears.findLost());
        }
    }

    private static void testFindLostOfNone() {
        Sentence.of("Promise 20", "NONE if there is none.");
        Due.is("a new object", SquareGears.NONE, new SquareGears().findLost());
        SquareGears gears = Make.gears(5, 6, 7);
        gears.copy();
        gears.lose(1);
        gears.lose(2);
        Due.is("two lost wheels", SquareGears.NONE, gears.findLost());
        gears.lose(1);
        gears.set(2, 0);
        gears.copy();
        Due.is("a lost wheel of 0", SquareGears.NONE, gears.findLost());
        for (int point = 0; point < 8; point++) {
            for (int number : new int[] {-7, 0, 6, 8}) {
                gears = Make.withPattern(new SquareGears(), 7, 7, 7, 7, 7, 7, 7, 7);
                gears.point(point, number);
                Due.is("another number at " + point, SquareGears.NONE, gears.findLost());
            }
        }
        Due.is("one point alone", SquareGears.NONE, Make.withPattern(new SquareGears(), 1).findLost());
    }

    private static void testEnoughByDropping() {
        Sentence.of("Promise 21", "Tells how few wheels are enough.");
        Twins.areLeftAlike("enough(8, 0)", g -> g.enough(8, 0));
        Twins.areLeftAlike("enough(8, 1)", g -> g.enough(8, 1));
        Sentence.of("Promise 21", "`what`: 0: told by leaving out the wheels with the least amplitudes, without their signs, first, as long as the error allows it");
        SquareGears gears = Make.gears(-9, 2, -1, 9);
        isEnough("none", gears, 7, 4);
        isEnough("just the least one", gears, 8, 3);
        isEnough("one short of two", gears, 39, 3);
        isEnough("just two", gears, 40, 2);
        isEnough("one short of three", gears, 687, 2);
        isEnough("just three", gears, 688, 1);
        isEnough("one short of all", gears, 1335, 1);
        isEnough("just all", gears, 1336, 0);
    }

    private static void testEnoughOfAlike() {
        Sentence.of("Promise 21", "Returns the fewest wheels, of those with an amplitude other than 0 that are not lost");
        isEnough("no wheel", new SquareGears(), 0, 0);
        isEnough("all, alike", Make.gears(ALL_GREATEST), 0, 8);
        for (int left = 0; left < 8; left++) {
            int error = 78408 * (8 - left);
            isEnough("just so many of those alike", Make.gears(ALL_GREATEST), error, left);
            isEnough("one short of it", Make.gears(ALL_GREATEST), error - 1, left + 1);
        }
        SquareGears gears = Make.gears(0, 5, 0, 6, 7);
        gears.lose(0);
        gears.lose(4);
        isEnough("neither of 0 nor lost", gears, 0, 2);
        isEnough("the least one that is not lost", gears, 200, 1);
        gears.lose(1);
        gears.lose(3);
        isEnough("all are lost", gears, 0, 0);
    }

    private static void testEnoughBySets() {
        Sentence.of("Promise 21", "1: told by all sets of wheels");
        // Leaving out the wheels 0 and 7 alone would cost as much as the six others together.
        SquareGears gears = Make.gears(3, 1, 1, 1, 1, 1, 1, 3);
        isEnough("six of the least", gears, 48, 2);
        isEnough("one short of it", gears, 47, 3);
        isEnough("six of the least and one more", gears, 48 + 72, 1);
        isEnough("one short of it", gears, 48 + 71, 2);
        Sentence.of("Promise 21", "with which the error of leaving out the others is at most so much (the same for both).");
        isEnough("all", gears, 192, 0);
        isEnough("one short of all", gears, 191, 1);
    }

    private static void testEnoughErrors() {
        Sentence.of("Promise 21", "`error`: 0 to 9999999");
        isEnough("the least error", Make.gears(1, -1), 0, 2);
        isEnough("the greatest error", Make.gears(ALL_GREATEST), 9999999, 0);
        isEnough("the greatest error of no wheel", new SquareGears(), 9999999, 0);
    }

    private static void isEnough(String what, SquareGears gears, int error, int due) {
        Due.is(what + ": enough(" + error + ", 0)", due, gears.enough(error, 0));
        Due.is(what + ": enough(" + error + ", 1)", due, gears.enough(error, 1));
    }

    private static void testEnoughRefused() {
        Sentence.of("Promise 21", "Throws `IllegalArgumentException` if error is out of range, or what is not 0 or 1");
        for (int error : Make.outside(0, 9999999)) {
            for (int what = -1; what <= 2; what++) {
                int asked = what;
                Twins.areBadArguments("enough(" + error + ", " + what + ")", g -> g.enough(error, asked));
            }
        }
        for (int what : Make.outside(0, 1)) {
            Twins.areBadArguments("enough(0, " + what + ")", g -> g.enough(0, what));
            Twins.areBadArguments("enough(9999999, " + what + ")", g -> g.enough(9999999, what));
        }
    }

    private static void testIfTurned() {
        Sentence.of("Promise 22", "Tells what a turn would do.");
        Twins.areLeftAlike("ifTurned(7, 7)", g -> g.ifTurned(7, 7));
        Sentence.of("Promise 22", "`by`: 0 to 7");
        SquareGears gears = Make.gears(1, 2, 4, 8, 16, 32, 64, -90);
        for (int point = 0; point < 8; point++) {
            Due.is("ifTurned(0, " + point + ")", gears.trace(point, 0), gears.ifTurned(0, point));
            Due.is("ifTurned(7, " + point + ")", gears.trace(7 - point, 0), gears.ifTurned(7, point));
        }
        Sentence.of("Promise 22", "`point`: 0 to 7");
        for (int by = 0; by < 8; by++) {
            Due.is("ifTurned(" + by + ", 0)", gears.trace(by, 0), gears.ifTurned(by, 0));
            Due.is("ifTurned(" + by + ", 7)", gears.trace(7 - by, 0), gears.ifTurned(by, 7));
        }
        Sentence.of("Promise 22", "Returns the trace at the point behind turn(by).");
        for (int by = 0; by < 8; by++) {
            SquareGears turned = Make.busy();
            turned.turn(by);
            for (int point = 0; point < 8; point++) {
                Due.is("ifTurned(" + by + ", " + point + ")", turned.trace(point, 0), Make.busy().ifTurned(by, point));
            }
        }
    }

    private static void testIfTurnedRefused() {
        Sentence.of("Promise 22", "Throws `IndexOutOfBoundsException` if there is no such point");
        for (int point : Make.WRONG_PLACES) {
            for (int by = -1; by <= 8; by++) {
                int asked = by;
                Twins.areOutOfBounds("ifTurned(" + by + ", " + point + ")", g -> g.ifTurned(asked, point));
            }
        }
        Sentence.of("Promise 22", "Throws `IllegalArgumentException` if by is out of range");
        for (int by : Make.outside(0, 7)) {
            Twins.areBadArguments("ifTurned(" + by + ", 0)", g -> g.ifTurned(by, 0));
            Twins.areBadArguments("ifTurned(" + by + ", 7)", g -> g.ifTurned(by, 7));
        }
    }

    private static void testBestTurn() {
        Sentence.of("Promise 23", "Finds the turn with which the trace is the nearest to the pattern.");
        Twins.areLeftAlike("bestTurn()", g -> g.bestTurn());
        for (int by = 0; by < 8; by++) {
            SquareGears gears = Make.gears(99, 99, 99, 99, 99, 99, 99, 99);
            gears.point(by, 792);
            Due.is("bestTurn() to the point " + by, by, gears.bestTurn());
            gears.point(by, 9999);
            Due.is("bestTurn() far below the pattern at " + by, by, gears.bestTurn());
        }
        Sentence.of("Promise 23", "the sum of the differences of all points, each without its sign, would be the least");
        SquareGears gears = Make.withPattern(Make.gears(0, 10), 1000, 0, -10, 0, -10);
        Due.is("bestTurn() by sums, not by squares", 1, gears.bestTurn());
        // A difference below 0 must not make up for one above 0.
        gears = Make.withPattern(Make.gears(0, 0, 0, 0, 50), -50, -50, -50, -50, 50, 50, 50, 49);
        Due.is("bestTurn() of differences without their signs", 4, gears.bestTurn());
    }

    private static void testBestTurnOfSeveral() {
        Sentence.of("Promise 23", "of several the least.");
        Due.is("all are the same", 0, new SquareGears().bestTurn());
        Due.is("all are the same, with the wheel 0", 0, Make.gears(99).bestTurn());
        // The wheel 2 alone has one trace for 0, 1, 4 and 5, and another one for 2, 3, 6 and 7.
        Due.is("the least of four", 2, Make.withPattern(Make.gears(0, 0, 5), -5, -5, 5, 5, -5, -5, 5, 5).bestTurn());
        Due.is("the least of the first four", 0, Make.withPattern(Make.gears(0, 0, 5), 5, 5, -5, -5, 5, 5, -5, -5).bestTurn());
        Due.is("the least of the last four", 4, Make.withPattern(Make.gears(0, 0, 0, 0, 5), -5, -5, -5, -5, 5, 5, 5, 5).bestTurn());
        // Where all of the pattern is below all traces, each turn has the same sum.
        SquareGears gears = Make.gears(99, 99, 99, 99, 99, 99, 99, 99);
        gears.turn(3);
        Make.withPattern(gears, -9999, -9998, -9997, -9996, -9995, -9994, -9993, -9992);
        Due.is("all are the same, far below", 0, gears.bestTurn());
        gears = Make.gears(5, 5, 5, 5, 5, 5, 5, 5);
        gears.point(3, 40);
        gears.point(6, 40);
        Due.is("the less of 3 and 6", 3, gears.bestTurn());
        gears.point(6, 39);
        Due.is("3 is better than 6", 3, gears.bestTurn());
        gears.point(3, 38);
        Due.is("6 is better than 3", 6, gears.bestTurn());
        gears.point(6, 0);
        gears.point(7, 39);
        Due.is("7 is better than 3", 7, gears.bestTurn());
    }

    private static void testMainShare() {
        Sentence.of("Promise 24", "Returns how much the greatest wheel draws.");
        Twins.areLeftAlike("mainShare()", g -> g.mainShare() > 0.5 ? 1 : 0);
        Due.isShare("one wheel", 1.0, Make.gears(0, 0, 0, 0, 0, 0, 0, -1).mainShare());
        Due.isShare("all, alike", 0.125, Make.gears(ALL_GREATEST).mainShare());
        Due.isShare("the greatest one is below 0", 0.8, Make.gears(1, -2).mainShare());
        Sentence.of("Promise 24", "Returns the square of the greatest amplitude as a double, divided by the sum of all squares, of wheels that are not lost");
        SquareGears gears = Make.gears(99, 3, -4);
        gears.lose(0);
        Due.isShare("the greatest one is lost", 16.0 / 25.0, gears.mainShare());
        Due.isShare("99 and 1", 9801.0 / 9802.0, Make.gears(1, -99).mainShare());
        Due.isShare("a third", 1.0 / 3.0, Make.gears(7, -7, 7).mainShare());
        Sentence.of("Promise 24", "0.0 if that is 0.");
        Due.isShare("a new object", 0.0, new SquareGears().mainShare());
        gears.lose(1);
        gears.lose(2);
        Due.isShare("all are lost or 0", 0.0, gears.mainShare());
    }
}
