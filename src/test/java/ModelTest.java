/** Long runs of calls, right and wrong ones, whose answers must be those of the model; the runs are always the same. */
public final class ModelTest {
    private static final int RUNS = 400;
    private static final int CALLS = 512;
    private static final String[] TEXTS = {"a=1", "b=-99;c!", "h=99;h!;a=5;a=-7", "d=0;e=10;f=-1;g=20", "a=05", "c=-0",
        "a=1;", "b!!", "i=1", "e", "f=", "g=-", "a!;b!;c!;d!;e!;f!;g!;h!", "a=100", "h=3;;", "a=50;b=50;c=50;d=50"};
    private static final int[] WILD = {-1, 8, 9, 100, -100, 10000, Integer.MAX_VALUE, Integer.MIN_VALUE};

    private static long seed = 20261119;
    private static SquareGears gears;
    private static Model model;
    private static int asked;
    private static int told;

    public static void main(String[] args) {
        for (int run = 0; run < RUNS; run++) {
            gears = new SquareGears();
            model = new Model();
            asked = 0;
            while (asked < CALLS) {
                askNext("run " + run + ", ");
            }
        }
        Due.isTrue("many texts are loaded (" + told + ")", told > RUNS);
        Due.end("ModelTest");
    }

    private static void askNext(String run) {
        int call = below(27);
        if (call == 26) {
            typeText(run);
            return;
        }
        int first = call == 7 ? number(33, 126) : firstArgument(call);
        ask(run, call, first, secondArgument(call));
    }

    /** Behind a ";" or in place of what was there, or so that the buffer becomes wrong or full. */
    private static void typeText(String run) {
        String text = TEXTS[below(TEXTS.length)];
        int way = below(4);
        if (way < 2) {
            ask(run, 8, 0, 0);
        } else if (way == 2) {
            text = ";" + text + ";" + text;
        }
        for (int i = 0; i < text.length() && asked < CALLS; i++) {
            ask(run, 7, text.charAt(i), 0);
        }
        if (asked < CALLS) {
            ask(run, 9, 0, 0);
        }
        if (asked < CALLS && below(2) == 0) {
            ask(run, 10, 0, 0);
        }
    }

    private static int below(int bound) {
        seed = seed * 6364136223846793005L + 1442695040888963407L;
        return (int) ((seed >>> 33) % bound);
    }

    /** A number of this range; now and then one that is out of most ranges. */
    private static int number(int least, int greatest) {
        if (below(25) == 0) {
            return WILD[below(WILD.length)];
        }
        return least + below(greatest - least + 1);
    }

    private static int amplitude() {
        switch (below(4)) {
            case 0: return 0;
            case 1: return below(2) == 0 ? 99 : -99;
            default: return number(-99, 99);
        }
    }

    private static void ask(String run, int call, int first, int second) {
        asked++;
        String what = run + "call " + asked + " of kind " + call + " with " + first + ", " + second;
        Class<?> due = null;
        Class<?> got = null;
        long dueAnswer = 0;
        long answer = 0;
        try {
            dueAnswer = ofModel(call, first, second);
        } catch (Model.Thrown thrown) {
            due = thrown.due;
        }
        try {
            answer = ofProgram(call, first, second);
        } catch (RuntimeException thrown) {
            got = thrown.getClass();
        }
        told += call == 10 && due == null ? 1 : 0;
        Due.isTrue(what + " threw " + got + ", due is " + due + ":", got == due);
        Due.is(what, dueAnswer, answer);
    }

    private static int firstArgument(int call) {
        switch (call) {
            case 3: return number(1, below(2) == 0 ? 99 : 20);
            case 11: case 12: return number(0, 1);
            case 17: return number(0, 8);
            case 19: return below(3) == 0 ? number(0, 9999999) : number(0, 200000);
            default: return number(0, 7);
        }
    }

    private static int secondArgument(int call) {
        switch (call) {
            case 0: return amplitude();
            case 4: return below(2) == 0 ? number(-9999, 9999) : number(-900, 900);
            case 14: return number(0, 3);
            case 15: case 19: return number(0, 1);
            case 16: return number(0, 2);
            default: return number(0, 7);
        }
    }

    private static long ofProgram(int call, int first, int second) {
        switch (call) {
            case 0: return gears.set(first, second);
            case 1: return gears.lose(first);
            case 2: return gears.turn(first);
            case 3: return gears.drop(first);
            case 4: return gears.point(first, second);
            case 5: return gears.copy();
            case 6: return gears.fit();
            case 7: return gears.append(first);
            case 8: return gears.clearBuffer();
            case 9: return gears.firstError();
            case 10: return gears.load();
            case 11: return gears.keep(first);
            case 12: return gears.goBack(first);
            case 13: return gears.undo();
            case 14: return gears.wheelOf(first, second);
            case 15: return gears.trace(first, second);
            case 16: return gears.pointOf(first, second);
            case 17: return gears.count(first);
            case 18: return gears.findLost();
            case 19: return gears.enough(first, second);
            case 20: return gears.ifTurned(first, second);
            case 21: return gears.bestTurn();
            case 22: return Double.doubleToLongBits(gears.mainShare());
            default: return gears.digest();
        }
    }

    private static long ofModel(int call, int first, int second) {
        switch (call) {
            case 0: return model.set(first, second);
            case 1: return model.lose(first);
            case 2: return model.turn(first);
            case 3: return model.drop(first);
            case 4: return model.point(first, second);
            case 5: return model.copy();
            case 6: return model.fit();
            case 7: return model.append(first);
            case 8: return model.clearBuffer();
            case 9: return model.firstError();
            case 10: return model.load();
            case 11: return model.keep(first);
            case 12: return model.goBack(first);
            case 13: return model.undo();
            case 14: return model.wheelOf(first, second);
            case 15: return model.trace(first, second);
            case 16: return model.pointOf(first, second);
            case 17: return model.count(first);
            case 18: return model.findLost();
            case 19: return model.enough(first, second);
            case 20: return model.ifTurned(first, second);
            case 21: return model.bestTurn();
            case 22: return Double.doubleToLongBits(model.mainShare());
            default: return model.digest();
        }
    }
}
