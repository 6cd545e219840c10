import java.util.ArrayDeque;
import java.util.ArrayList;
import java.util.Deque;
import java.util.List;
import java.util.regex.Matcher;
import java.util.regex.Pattern;

/**
 * The document told a second time, in another way than the program: with copies of whole states,
 * waves as rows of a table, texts as regular expressions. Its calls answer as the program's should.
 */
final class Model {
    /** The exception that a call should throw, in place of an answer. */
    static final class Thrown extends RuntimeException {
        private static final long serialVersionUID = 1L;
        final Class<?> due;

        Thrown(Class<?> due) {
            this.due = due;
        }
    }

    private static final Pattern WHEEL = Pattern.compile("([a-h])(?:=(0|-?[1-9][0-9]?)|(!))");
    private static final Pattern WHEELS = Pattern.compile(WHEEL.pattern() + "(?:;" + WHEEL.pattern() + ")*");
    private static final int[][] WAVES = waves();

    private int[] amplitudes = new int[8];
    private boolean[] lost = new boolean[8];
    private int[] pattern = new int[8];
    private int fitted = 0;
    private final Model[] slots = new Model[2];
    private final Deque<Model> saved = new ArrayDeque<>();
    private String buffer = "";

    /** A wave of twice the length is the wave twice, and the wave with its other sign behind it. */
    private static int[][] waves() {
        int[][] waves = new int[8][8];
        waves[0][0] = 1;
        for (int size = 1; size < 8; size *= 2) {
            for (int row = 0; row < size; row++) {
                for (int column = 0; column < size; column++) {
                    waves[row][column + size] = waves[row][column];
                    waves[row + size][column] = waves[row][column];
                    waves[row + size][column + size] = -waves[row][column];
                }
            }
        }
        return waves;
    }

    private Model copied() {
        Model copy = new Model();
        copy.restore(this);
        return copy;
    }

    private void restore(Model other) {
        amplitudes = other.amplitudes.clone();
        lost = other.lost.clone();
        pattern = other.pattern.clone();
        fitted = other.fitted;
    }

    private void save() {
        saved.addLast(copied());
        if (saved.size() > 6) {
            saved.removeFirst();
        }
    }

    private static void demand(boolean holds, Class<?> otherwise) {
        if (!holds) {
            throw new Thrown(otherwise);
        }
    }

    private static void demandPlace(int place) {
        demand(place >= 0 && place <= 7, IndexOutOfBoundsException.class);
    }

    private static void demandRange(int number, int least, int greatest) {
        demand(number >= least && number <= greatest, IllegalArgumentException.class);
    }

    int set(int wheel, int amplitude) {
        demandPlace(wheel);
        demandRange(amplitude, -99, 99);
        save();
        int before = amplitudes[wheel];
        amplitudes[wheel] = amplitude;
        return before;
    }

    int lose(int wheel) {
        demandPlace(wheel);
        save();
        lost[wheel] = !lost[wheel];
        return lost[wheel] ? 1 : 0;
    }

    int turn(int by) {
        demandRange(by, 0, 7);
        save();
        int[] before = amplitudes.clone();
        for (int k = 0; k < 8; k++) {
            amplitudes[k] *= WAVES[k][by];
        }
        return changed(before, amplitudes);
    }

    int drop(int least) {
        demandRange(least, 1, 99);
        save();
        int[] before = amplitudes.clone();
        for (int k = 0; k < 8; k++) {
            amplitudes[k] = amplitudes[k] * amplitudes[k] < least * least ? 0 : amplitudes[k];
        }
        return changed(before, amplitudes);
    }

    private static int changed(int[] before, int[] after) {
        int changed = 0;
        for (int i = 0; i < 8; i++) {
            changed += before[i] == after[i] ? 0 : 1;
        }
        return changed;
    }

    int point(int point, int number) {
        demandPlace(point);
        demandRange(number, -9999, 9999);
        save();
        int before = pattern[point];
        pattern[point] = number;
        return before;
    }

    int copy() {
        save();
        int[] before = pattern;
        pattern = traces();
        return changed(before, pattern);
    }

    int fit() {
        save();
        int[] before = amplitudes.clone();
        lost = new boolean[8];
        for (int k = 0; k < 8; k++) {
            int fitting = wheelOf(k, 2);
            amplitudes[k] = fitting < -99 ? -99 : fitting > 99 ? 99 : fitting;
        }
        fitted += changed(before, amplitudes);
        return changed(before, amplitudes);
    }

    int append(int code) {
        demandRange(code, 33, 126);
        demand(buffer.length() < 60, IllegalStateException.class);
        buffer += (char) code;
        return buffer.length();
    }

    int clearBuffer() {
        int before = buffer.length();
        buffer = "";
        return before;
    }

    /** A beginning goes on to wheels if one of the shortest endings makes it such. */
    private static boolean goesOn(String beginning) {
        for (String ending : new String[] {"", "!", "1", "a!"}) {
            if (WHEELS.matcher(beginning + ending).matches()) {
                return true;
            }
        }
        return false;
    }

    int firstError() {
        int good = 0;
        while (good < buffer.length() && goesOn(buffer.substring(0, good + 1))) {
            good++;
        }
        return good;
    }

    int load() {
        demand(WHEELS.matcher(buffer).matches(), IllegalArgumentException.class);
        save();
        amplitudes = new int[8];
        lost = new boolean[8];
        Matcher wheel = WHEEL.matcher(buffer);
        while (wheel.find()) {
            int k = wheel.group(1).charAt(0) - 'a';
            if (wheel.group(2) == null) {
                lost[k] = true;
            } else {
                amplitudes[k] = Integer.parseInt(wheel.group(2));
            }
        }
        buffer = "";
        return count(0);
    }

    int keep(int slot) {
        demandRange(slot, 0, 1);
        slots[slot] = copied();
        return count(0);
    }

    int goBack(int slot) {
        demandRange(slot, 0, 1);
        demand(slots[slot] != null, IllegalStateException.class);
        save();
        restore(slots[slot]);
        return count(0);
    }

    int undo() {
        demand(!saved.isEmpty(), IllegalStateException.class);
        restore(saved.removeLast());
        return saved.size();
    }

    int wheelOf(int wheel, int what) {
        demandPlace(wheel);
        demandRange(what, 0, 3);
        int sum = 0;
        int changes = 0;
        for (int n = 0; n < 8; n++) {
            sum += pattern[n] * WAVES[wheel][n];
            changes += n > 0 && WAVES[wheel][n] != WAVES[wheel][n - 1] ? 1 : 0;
        }
        int[] numbers = {amplitudes[wheel], lost[wheel] ? 1 : 0, sum >> 3, changes};
        return numbers[what];
    }

    private int[] traces() {
        int[] traces = new int[8];
        for (int k = 0; k < 8; k++) {
            for (int n = 0; n < 8; n++) {
                traces[n] += lost[k] ? 0 : amplitudes[k] * WAVES[k][n];
            }
        }
        return traces;
    }

    int trace(int point, int what) {
        demandPlace(point);
        demandRange(what, 0, 1);
        return traces()[point];
    }

    int pointOf(int point, int what) {
        demandPlace(point);
        demandRange(what, 0, 2);
        int here = traces()[point];
        int next = traces()[point == 7 ? 0 : point + 1];
        int[] numbers = {pattern[point], pattern[point] - here, next - here};
        return numbers[what];
    }

    int count(int what) {
        demandRange(what, 0, 8);
        int drawing = 0;
        int lostOnes = 0;
        int greatest = Integer.MIN_VALUE;
        int least = Integer.MAX_VALUE;
        int difference = 0;
        int jump = 0;
        for (int i = 0; i < 8; i++) {
            drawing += amplitudes[i] == 0 ? 0 : 1;
            lostOnes += lost[i] ? 1 : 0;
            greatest = Math.max(greatest, traces()[i]);
            least = Math.min(least, traces()[i]);
            difference = Math.max(difference, Math.abs(pointOf(i, 1)));
            jump = Math.max(jump, Math.abs(pointOf(i, 2)));
        }
        int height = Math.max(Math.abs(greatest), Math.abs(least));
        int overshoot = lost[0] ? height : height - Math.abs(amplitudes[0]);
        int[] numbers = {drawing, lostOnes, greatest, least, difference, jump, overshoot, fitted, saved.size()};
        return numbers[what];
    }

    int findLost() {
        for (int k = 0; k < 8; k++) {
            boolean one = pointOf(0, 1) != 0;
            for (int n = 0; n < 8; n++) {
                one &= pointOf(n, 1) * WAVES[k][n] == pointOf(0, 1);
            }
            if (one) {
                return k;
            }
        }
        return -1;
    }

    /** Told by the squares in order alone; that both ways of the document agree is a promise. */
    int enough(int error, int what) {
        demandRange(error, 0, 9999999);
        demandRange(what, 0, 1);
        List<Integer> errors = new ArrayList<>();
        for (int k = 0; k < 8; k++) {
            if (!lost[k] && amplitudes[k] != 0) {
                errors.add(8 * amplitudes[k] * amplitudes[k]);
            }
        }
        errors.sort(null);
        int all = 0;
        int left = 0;
        while (left < errors.size() && all + errors.get(left) <= error) {
            all += errors.get(left);
            left++;
        }
        return errors.size() - left;
    }

    int ifTurned(int by, int point) {
        demandPlace(point);
        demandRange(by, 0, 7);
        Model turned = copied();
        turned.turn(by);
        return turned.trace(point, 0);
    }

    int bestTurn() {
        int best = -1;
        int least = Integer.MAX_VALUE;
        for (int by = 0; by < 8; by++) {
            Model turned = copied();
            turned.turn(by);
            int sum = 0;
            for (int n = 0; n < 8; n++) {
                sum += Math.abs(turned.pointOf(n, 1));
            }
            best = sum < least ? by : best;
            least = Math.min(sum, least);
        }
        return best;
    }

    double mainShare() {
        int greatest = 0;
        int sum = 0;
        for (int k = 0; k < 8; k++) {
            int amplitude = lost[k] ? 0 : Math.abs(amplitudes[k]);
            greatest = Math.max(greatest, amplitude);
            sum += amplitude * amplitude;
        }
        return sum == 0 ? 0.0 : (double) (greatest * greatest) / sum;
    }

    long digest() {
        List<Long> values = new ArrayList<>();
        for (int what = 0; what <= 8; what++) {
            values.add((long) count(what));
        }
        for (int i = 0; i < 32; i++) {
            values.add((long) wheelOf(i / 4, i % 4));
        }
        for (int point = 0; point < 8; point++) {
            values.add((long) trace(point, 0));
            values.add((long) trace(point, 1));
            for (int what = 0; what <= 2; what++) {
                values.add((long) pointOf(point, what));
            }
        }
        values.add((long) findLost());
        for (int i = 0; i < 6; i++) {
            values.add((long) enough(new int[] {0, 1000, 100000}[i / 2], i % 2));
        }
        for (int point = 0; point < 8; point++) {
            values.add((long) ifTurned(5, point));
        }
        values.add((long) bestTurn());
        values.add(Double.doubleToLongBits(mainShare()));
        values.add(slots[0] == null ? 0L : 1L);
        values.add(slots[1] == null ? 0L : 1L);
        values.add((long) buffer.length());
        buffer.chars().forEach(code -> values.add((long) code));
        long hash = 3733;
        for (long value : values) {
            hash = 31 * hash + value;
        }
        return hash;
    }
}
