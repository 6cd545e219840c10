/** What the document says in general, where it names no edge: of all wheels and points, or of many states. */
final class ReadingOfWords {
    /** Written out by hand: a row for each wheel, + for 1 and - for -1. */
    private static final String[] WAVES = {
        "++++++++", "+-+-+-+-", "++--++--", "+--++--+", "++++----", "+-+--+-+", "++----++", "+--+-++-"};
    private static final int[][] STATES = {
        {1, 2, 4, 8, 16, 32, 64, 99}, {-99, 50, -25, 12, -6, 3, -1, 0}, {0, 0, 7, 0, 0, -7, 0, 0}, {10, 10, 10, -10, 20, 20, -20, 1}};

    private ReadingOfWords() {
    }

    static void test() {
        testWaves();
        testPatternAmplitudes();
        testErrors();
        testLeftToRight();
        testHalves();
        testOvershoot();
        testTurns();
        testTurnedTraces();
        testFewestOfSets();
    }

    private static int wave(int wheel, int point) {
        return WAVES[wheel].charAt(point) == '+' ? 1 : -1;
    }

    private static void testWaves() {
        Sentence.of("Terms", "The wave of the wheel k at the point n is 1, if the bits that both k and n have are an even number");
        for (int wheel = 0; wheel < 8; wheel++) {
            SquareGears gears = new SquareGears();
            gears.set(wheel, 1);
            for (int point = 0; point < 8; point++) {
                Due.is("the wave of " + wheel + " at " + point, wave(wheel, point), gears.trace(point, 0));
                Due.is("the wave of " + wheel + " at " + point + ", by halves", wave(wheel, point), gears.trace(point, 1));
            }
        }
    }

    private static void testPatternAmplitudes() {
        Sentence.of("Terms", "The amplitude of a pattern for the wheel k is the sum of all its points, each times the wave of k there");
        for (int point = 0; point < 8; point++) {
            SquareGears gears = new SquareGears();
            gears.point(point, 8000);
            gears.point(point ^ 3, 80);
            for (int wheel = 0; wheel < 8; wheel++) {
                int due = 1000 * wave(wheel, point) + 10 * wave(wheel, point ^ 3);
                Due.is("8000 at " + point + ": wheelOf(" + wheel + ", 2)", due, gears.wheelOf(wheel, 2));
            }
        }
    }

    /** The error is told from the traces, wheel by wheel from the least amplitude on. */
    private static void testErrors() {
        Sentence.of("Terms", "The error of leaving out some wheels is the sum, over all points, of the square of what the trace changes by it");
        SquareGears gears = Make.gears(STATES[0]);
        int[] whole = traces(gears);
        for (int wheel = 0; wheel < 8; wheel++) {
            gears.lose(wheel);
            int error = 0;
            for (int point = 0; point < 8; point++) {
                int change = gears.trace(point, 0) - whole[point];
                error += change * change;
            }
            for (int what = 0; what <= 1; what++) {
                SquareGears asked = Make.gears(STATES[0]);
                Due.is("enough(" + error + ", " + what + ")", 7 - wheel, asked.enough(error, what));
                Due.is("enough(" + (error - 1) + ", " + what + ")", 8 - wheel, asked.enough(error - 1, what));
            }
        }
    }

    private static int[] traces(SquareGears gears) {
        int[] traces = new int[8];
        for (int point = 0; point < 8; point++) {
            traces[point] = gears.trace(point, 0);
        }
        return traces;
    }

    private static void testLeftToRight() {
        Sentence.of("Terms", "The buffer is read from left to right");
        Due.is("firstError() of !a", 0, Make.withText(new SquareGears(), "!a").firstError());
        Due.is("firstError() of 5=a", 0, Make.withText(new SquareGears(), "5=a").firstError());
        SquareGears gears = Make.withText(new SquareGears(), "a=12;a=34");
        gears.load();
        Due.is("the last one is that to the right", 34, gears.wheelOf(0, 0));
    }

    private static void testHalves() {
        Sentence.of("Promise 17", "the first half and the second half are added, and subtracted, and both halves are done likewise");
        for (int[] state : STATES) {
            SquareGears gears = Make.gears(state);
            int[] halved = byHalves(state);
            for (int point = 0; point < 8; point++) {
                Due.is("trace(" + point + ", 1)", halved[point], gears.trace(point, 1));
                Due.is("trace(" + point + ", 0)", halved[point], gears.trace(point, 0));
            }
        }
    }

    private static int[] byHalves(int[] row) {
        if (row.length == 1) {
            return row;
        }
        int half = row.length / 2;
        int[] sums = new int[half];
        int[] differences = new int[half];
        for (int i = 0; i < half; i++) {
            sums[i] = row[i] + row[i + half];
            differences[i] = row[i] - row[i + half];
        }
        int[] done = new int[row.length];
        System.arraycopy(byHalves(sums), 0, done, 0, half);
        System.arraycopy(byHalves(differences), 0, done, half, half);
        return done;
    }

    private static void testOvershoot() {
        Sentence.of("Promise 19", "6: the overshoot: the greatest one of all traces, each without its sign, less the amplitude of the wheel 0");
        for (int[] state : STATES) {
            SquareGears gears = Make.gears(state);
            int greatest = 0;
            for (int trace : traces(gears)) {
                greatest = Math.max(greatest, Math.abs(trace));
            }
            Due.is("count(6)", greatest - Math.abs(state[0]), gears.count(6));
            gears.lose(0);
            greatest = Math.max(Math.abs(gears.count(2)), Math.abs(gears.count(3)));
            Due.is("count(6) without the wheel 0", greatest, gears.count(6));
        }
    }

    private static void testTurns() {
        Sentence.of("Promise 4", "the trace at each point becomes what it was at the point whose bits differ from its own just in the bits of the number; each amplitude is multiplied by the wave of its wheel at this number.");
        for (int[] state : STATES) {
            for (int by = 0; by < 8; by++) {
                SquareGears gears = Make.gears(state);
                gears.lose(4);
                int[] before = traces(gears);
                gears.turn(by);
                for (int place = 0; place < 8; place++) {
                    Due.is("trace(" + place + ", 0) behind turn(" + by + ")", before[place ^ by], gears.trace(place, 0));
                    Due.is("wheelOf(" + place + ", 0) behind turn(" + by + ")", state[place] * wave(place, by), gears.wheelOf(place, 0));
                }
            }
        }
    }

    private static void testTurnedTraces() {
        Sentence.of("Promise 23", "Returns the number, 0 to 7, with which the sum of the differences of all points, each without its sign, would be the least");
        for (int[] state : STATES) {
            for (int by = 0; by < 8; by++) {
                SquareGears gears = Make.withPattern(Make.gears(state), 100, -20, 3, 40, -5, 60 * by, 7, -80);
                int best = gears.bestTurn();
                long least = sumBehind(gears, best);
                for (int other = 0; other < 8; other++) {
                    long sum = sumBehind(gears, other);
                    Due.isTrue("turn(" + best + ") is nearer than turn(" + other + ")", other < best ? sum > least : sum >= least);
                }
            }
        }
    }

    private static long sumBehind(SquareGears gears, int by) {
        long sum = 0;
        gears.turn(by);
        for (int point = 0; point < 8; point++) {
            sum += Math.abs(gears.pointOf(point, 1));
        }
        gears.undo();
        return sum;
    }

    /** Each set of lost wheels tells its own error by the traces. */
    private static void testFewestOfSets() {
        Sentence.of("Promise 21", "with which the error of leaving out the others is at most so much (the same for both).");
        for (int[] state : STATES) {
            for (int error : new int[] {0, 8, 100, 1000, 5000, 20000, 100000, 9999999}) {
                int due = fewest(state, error);
                SquareGears gears = Make.gears(state);
                Due.is("enough(" + error + ", 0)", due, gears.enough(error, 0));
                Due.is("enough(" + error + ", 1)", due, gears.enough(error, 1));
            }
        }
    }

    private static int fewest(int[] state, int error) {
        int fewest = 8;
        for (int set = 0; set < 256; set++) {
            int kept = 0;
            int cost = 0;
            for (int wheel = 0; wheel < 8; wheel++) {
                boolean keeps = (set & 1 << wheel) != 0;
                kept += keeps && state[wheel] != 0 ? 1 : 0;
            }
            for (int point = 0; point < 8; point++) {
                int change = 0;
                for (int wheel = 0; wheel < 8; wheel++) {
                    change += (set & 1 << wheel) != 0 ? 0 : state[wheel] * wave(wheel, point);
                }
                cost += change * change;
            }
            fewest = cost <= error ? Math.min(fewest, kept) : fewest;
        }
        return fewest;
    }
}
