/** Promises 13 to 15: keep, goBack, undo. */
public final class StatesTest {
    public static void main(String[] args) {
        testKeep();
        testGoBack();
        testWhatASnapshotIs();
        testUndo();
        testOldestIsDropped();
        testEachUndoable();
        testNotUndoable();
        Due.end("StatesTest");
    }

    private static void testKeep() {
        SquareGears gears = Make.gears(1, 0, -2);
        gears.lose(2);
        Due.is("keep(0)", 2, gears.keep(0));
        gears.set(0, 0);
        Due.is("keep(1)", 1, gears.keep(1));
        gears.set(2, 0);
        Due.is("goBack(0)", 2, gears.goBack(0));
        Make.areAmplitudes("goBack(0)", gears, 1, 0, -2, 0, 0, 0, 0, 0);
        Due.is("goBack(1)", 1, gears.goBack(1));
        Make.areAmplitudes("goBack(1)", gears, 0, 0, -2, 0, 0, 0, 0, 0);
        gears.set(5, 5);
        gears.keep(0);
        gears.set(5, 6);
        gears.goBack(0);
        Make.areAmplitudes("goBack(0) to the newer one", gears, 0, 0, -2, 0, 0, 5, 0, 0);
        for (int slot : new int[] {-1, 2, 32, 33, Integer.MIN_VALUE, Integer.MAX_VALUE}) {
            Due.isBadArgument("keep(wrong slot)", gears, g -> g.keep(slot));
            Due.isBadArgument("goBack(wrong slot)", gears, g -> g.goBack(slot));
        }
    }

    private static void testGoBack() {
        SquareGears gears = Make.gears(1, 2);
        Due.isBadState("goBack(0) without a snapshot", gears, g -> g.goBack(0));
        gears.keep(1);
        Due.isBadState("goBack(0) with one in the slot 1", gears, g -> g.goBack(0));
        gears.set(0, 50);
        gears.goBack(1);
        gears.set(1, 51);
        Due.is("goBack(1) stays", 2, gears.goBack(1));
        Make.areAmplitudes("goBack(1) stays", gears, 1, 2, 0, 0, 0, 0, 0, 0);
        gears.undo();
        Make.areAmplitudes("undo of goBack", gears, 1, 51, 0, 0, 0, 0, 0, 0);
        Due.is("goBack(1) behind undo", 2, gears.goBack(1));
        Make.areAmplitudes("goBack(1) behind undo", gears, 1, 2, 0, 0, 0, 0, 0, 0);
    }

    private static void testWhatASnapshotIs() {
        SquareGears gears = Make.withPattern(Make.gears(3), 80);
        gears.fit();
        gears.lose(4);
        gears.append('a');
        gears.keep(0);
        int saved = gears.count(8);
        gears.lose(5);
        gears.point(0, 7);
        gears.fit();
        gears.append('=');
        gears.keep(1);
        gears.goBack(0);
        Make.areLost("snapshot", gears, 4);
        Make.isPattern("snapshot", gears, 80, 0, 0, 0, 0, 0, 0, 0);
        Make.areAmplitudes("snapshot", gears, 10, 10, 10, 10, 10, 10, 10, 10);
        Due.is("snapshot: count(7)", 8, gears.count(7));
        Due.is("snapshot: saved states", Math.min(6, saved + 4), gears.count(8));
        Due.is("snapshot: the buffer stays", 2, gears.clearBuffer());
        gears.goBack(1);
        Make.isPattern("the other slot stays", gears, 7, 0, 0, 0, 0, 0, 0, 0);
    }

    private static void testUndo() {
        SquareGears gears = Make.gears(1);
        gears.lose(0);
        gears.point(3, 9);
        gears.keep(0);
        gears.append('q');
        Due.is("undo() of point", 2, gears.undo());
        Make.isPattern("undo of point", gears, 0, 0, 0, 0, 0, 0, 0, 0);
        Due.is("undo() of lose", 1, gears.undo());
        Make.areLost("undo of lose", gears);
        Due.is("undo() of set", 0, gears.undo());
        Make.areAmplitudes("undo of set", gears, 0, 0, 0, 0, 0, 0, 0, 0);
        Due.isBadState("undo() of nothing", gears, g -> g.undo());
        Due.is("undo leaves the slots", 1, gears.goBack(0));
        Due.is("undo leaves the buffer", 1, gears.clearBuffer());
    }

    private static void testOldestIsDropped() {
        SquareGears gears = new SquareGears();
        for (int amplitude = 1; amplitude <= 20; amplitude++) {
            gears.set(0, amplitude);
            Due.is("saved states", Math.min(6, amplitude), gears.count(8));
        }
        for (int left = 5; left >= 0; left--) {
            Due.is("undo()", left, gears.undo());
            Due.is("undone", 14 + left, gears.wheelOf(0, 0));
        }
        Due.isBadState("undo() of a seventh", gears, g -> g.undo());
        Due.is("the oldest is not restored", 14, gears.wheelOf(0, 0));
        gears.set(0, 30);
        gears.set(0, 31);
        Due.is("undo() between", 1, gears.undo());
        gears.set(0, 32);
        Due.is("undo() behind", 1, gears.undo());
        Due.is("undone behind", 30, gears.wheelOf(0, 0));
    }

    private static void testEachUndoable() {
        SquareGears gears = new SquareGears();
        gears.keep(0);
        Due.Call[] calls = {g -> g.set(0, 0), g -> g.lose(1), g -> g.turn(0), g -> g.drop(1), g -> g.point(0, 0),
            g -> g.copy(), g -> g.fit(), g -> Make.withText(g, "a=0").load(), g -> g.goBack(0)};
        for (int i = 0; i < calls.length; i++) {
            long before = gears.digest();
            calls[i].on(gears);
            Due.is("undoable call " + i + " is saved", 1, gears.count(8));
            gears.undo();
            Due.is("digest() behind undo of call " + i, before, gears.digest());
        }
    }

    private static void testNotUndoable() {
        SquareGears gears = Make.gears(1, 2, 3);
        gears.append('a');
        gears.keep(0);
        gears.clearBuffer();
        gears.firstError();
        gears.digest();
        gears.bestTurn();
        Due.isBadArgument("set(0, 100)", gears, g -> g.set(0, 100));
        Due.isBadState("goBack(1)", gears, g -> g.goBack(1));
        Due.is("saved states of three sets", 3, gears.count(8));
        Due.is("undo()", 2, gears.undo());
        Make.areAmplitudes("undo of the last set", gears, 1, 2, 0, 0, 0, 0, 0, 0);
    }
}
