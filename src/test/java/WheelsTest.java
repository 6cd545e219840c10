/** Promises 1 to 5: a new object, set, lose, turn, drop. */
public final class WheelsTest {
    public static void main(String[] args) {
        testNew();
        testSet();
        testLose();
        testTurn();
        testDrop();
        Due.end("WheelsTest");
    }

    private static void testNew() {
        SquareGears gears = new SquareGears();
        Make.areAmplitudes("new", gears, 0, 0, 0, 0, 0, 0, 0, 0);
        Make.areLost("new", gears);
        Make.isTrace("new", gears, 0, 0, 0, 0, 0, 0, 0, 0);
        Make.isPattern("new", gears, 0, 0, 0, 0, 0, 0, 0, 0);
        for (int what = 0; what <= 8; what++) {
            Due.is("new: count(" + what + ")", 0, gears.count(what));
        }
        Due.isBadState("new: goBack(0)", gears, g -> g.goBack(0));
        Due.isBadState("new: goBack(1)", gears, g -> g.goBack(1));
        Due.isBadState("new: undo()", gears, g -> g.undo());
        Due.is("new: firstError()", 0, gears.firstError());
        Due.is("new: clearBuffer()", 0, gears.clearBuffer());
        Due.is("NONE", -1, SquareGears.NONE);
        SquareGears other = new SquareGears();
        gears.set(3, 7);
        Due.is("another object's amplitude", 0, other.wheelOf(3, 0));
    }

    private static void testSet() {
        SquareGears gears = new SquareGears();
        Due.is("set(0, 99)", 0, gears.set(0, 99));
        Due.is("set(0, -99)", 99, gears.set(0, -99));
        Due.is("set(7, 5)", 0, gears.set(7, 5));
        Due.is("set(7, 5) again", 5, gears.set(7, 5));
        Make.areAmplitudes("set", gears, -99, 0, 0, 0, 0, 0, 0, 5);
        Due.is("set: saved states", 4, gears.count(8));
        gears.lose(7);
        Due.is("set of a lost wheel", 5, gears.set(7, 6));
        Make.areLost("set of a lost wheel", gears, 7);
        Due.is("set of a lost wheel: count(0)", 2, gears.count(0));
        Due.is("undo of set", 4, undoneDownTo(gears, 5));
        Make.areAmplitudes("undo of set", gears, -99, 0, 0, 0, 0, 0, 0, 5);
        for (int wheel : Make.WRONG_PLACES) {
            Due.isOutOfBounds("set(wrong wheel, 0)", gears, g -> g.set(wheel, 0));
            Due.isOutOfBounds("set(wrong wheel, 100)", gears, g -> g.set(wheel, 100));
        }
        for (int amplitude : new int[] {-100, 100, Integer.MIN_VALUE, Integer.MAX_VALUE}) {
            Due.isBadArgument("set(0, wrong amplitude)", gears, g -> g.set(0, amplitude));
        }
    }

    /** Undoes two calls, of which the first one must leave so many saved states. */
    private static int undoneDownTo(SquareGears gears, int left) {
        Due.is("undo()", left, gears.undo());
        return gears.undo();
    }

    private static void testLose() {
        SquareGears gears = Make.gears(10, 20, 0, 30);
        Due.is("lose(3)", 1, gears.lose(3));
        Make.areLost("lose(3)", gears, 3);
        Make.isTrace("lose(3)", gears, 30, -10, 30, -10, 30, -10, 30, -10);
        Due.is("lost: amplitude", 30, gears.wheelOf(3, 0));
        Due.is("lost: count(0)", 3, gears.count(0));
        Due.is("lose(0)", 1, gears.lose(0));
        Due.is("lose(7)", 1, gears.lose(7));
        Make.areLost("lose three", gears, 0, 3, 7);
        Due.is("lose(3) again", 0, gears.lose(3));
        Make.areLost("found again", gears, 0, 7);
        gears.undo();
        Make.areLost("undo of lose", gears, 0, 3, 7);
        for (int wheel : Make.WRONG_PLACES) {
            Due.isOutOfBounds("lose(wrong wheel)", gears, g -> g.lose(wheel));
        }
    }

    private static void testTurn() {
        int[] amplitudes = {1, 2, 3, 0, 5, -6, 7, 8};
        for (int by = 0; by < 8; by++) {
            SquareGears gears = Make.gears(amplitudes);
            int[] before = new int[8];
            for (int point = 0; point < 8; point++) {
                before[point] = gears.trace(point, 0);
            }
            int signs = 0;
            for (int wheel = 0; wheel < 8; wheel++) {
                int common = wheel & by;
                boolean odd = ((common >> 2 ^ common >> 1 ^ common) & 1) == 1;
                signs += odd && amplitudes[wheel] != 0 ? 1 : 0;
            }
            Due.is("turn(" + by + ")", signs, gears.turn(by));
            for (int point = 0; point < 8; point++) {
                Due.is("turn(" + by + "): trace(" + point + ")", before[point ^ by], gears.trace(point, 0));
            }
            gears.undo();
            Make.areAmplitudes("undo of turn", gears, amplitudes);
        }
        testTurnOfLost();
    }

    private static void testTurnOfLost() {
        SquareGears gears = Make.gears(9, 4, 0, -3, 0, 1);
        gears.lose(1);
        gears.lose(7);
        Due.is("turn(1) with lost wheels", 3, gears.turn(1));
        Make.areAmplitudes("turn(1) with lost wheels", gears, 9, -4, 0, 3, 0, -1, 0, 0);
        Make.areLost("turn(1)", gears, 1, 7);
        Due.is("turn(0)", 0, gears.turn(0));
        Due.is("turn(0) is saved", 6, gears.count(8));
        gears.undo();
        Make.areAmplitudes("undo of turn(0)", gears, 9, -4, 0, 3, 0, -1, 0, 0);
        for (int by : Make.WRONG_PLACES) {
            Due.isBadArgument("turn(wrong number)", gears, g -> g.turn(by));
        }
    }

    private static void testDrop() {
        SquareGears gears = Make.gears(1, -1, 50, -50, 49, -49, 99, 0);
        gears.lose(5);
        Due.is("drop(1)", 0, gears.drop(1));
        Due.is("drop(50)", 4, gears.drop(50));
        Make.areAmplitudes("drop(50)", gears, 0, 0, 50, -50, 0, 0, 99, 0);
        Make.areLost("drop(50)", gears, 5);
        Due.is("drop(99)", 2, gears.drop(99));
        Make.areAmplitudes("drop(99)", gears, 0, 0, 0, 0, 0, 0, 99, 0);
        gears.undo();
        Make.areAmplitudes("undo of drop", gears, 0, 0, 50, -50, 0, 0, 99, 0);
        gears.undo();
        Make.areAmplitudes("undo of two drops", gears, 1, -1, 50, -50, 49, -49, 99, 0);
        for (int least : new int[] {0, 100, -1, Integer.MIN_VALUE, Integer.MAX_VALUE}) {
            Due.isBadArgument("drop(wrong number)", gears, g -> g.drop(least));
        }
    }
}
