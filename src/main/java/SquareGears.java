/** A harmonic adder of eight wheels whose pens draw square waves; ../shared/DOC.md says what it promises. */
public final class SquareGears {
    public static final int NONE = -1;

    /** There are as many points as wheels. */
    private static final int SIZE = 8;
    private static final int LARGEST_AMPLITUDE = 99;
    private static final int LARGEST_NUMBER = 9999;
    private static final int LARGEST_ERROR = 9999999;
    private static final int FIRST_CODE = 33;
    private static final int LAST_CODE = 126;
    private static final int SLOTS = 2;

    private static final long DIGEST_START = 3733L;
    private static final int DIGEST_TURN = 5;
    private static final int EXPONENT_OF_ONE = 1023;
    private static final int FRACTION_BITS = 52;
    private static final long FRACTION_OF_ONE = 1L << FRACTION_BITS;

    private final Gears now = new Gears();
    private final Gears[] slots = new Gears[SLOTS];
    /** Bit s tells whether the slot s has a snapshot. */
    private int keptSlots = 0;
    private final SavedGears saved = new SavedGears();
    private final WheelText text = new WheelText();
    /** One row for all calls that work on eight numbers, so that no call makes its own. */
    private final int[] row = new int[SIZE];

    public SquareGears() {
        for (int slot = 0; slot < SLOTS; slot++) {
            slots[slot] = new Gears();
        }
    }

    // ---- wheels

    public int set(int wheel, int amplitude) throws IndexOutOfBoundsException, IllegalArgumentException {
        if (isNoPlace(wheel)) {
            throw new IndexOutOfBoundsException("there is no such wheel");
        }
        if (isOutside(amplitude, -LARGEST_AMPLITUDE, LARGEST_AMPLITUDE)) {
            throw new IllegalArgumentException("the amplitude is out of range");
        }
        saved.push(now);
        int before = now.amplitudes[wheel];
        now.amplitudes[wheel] = amplitude;
        return before;
    }

    public int lose(int wheel) throws IndexOutOfBoundsException {
        if (isNoPlace(wheel)) {
            throw new IndexOutOfBoundsException("there is no such wheel");
        }
        saved.push(now);
        now.lostWheels ^= 1 << wheel;
        return now.isLost(wheel) ? 1 : 0;
    }

    public int turn(int by) throws IllegalArgumentException {
        if (isNoPlace(by)) {
            throw new IllegalArgumentException("by is out of range");
        }
        saved.push(now);
        int turned = 0;
        for (int wheel = 0; wheel < SIZE; wheel++) {
            if (wave(wheel, by) < 0 && now.amplitudes[wheel] != 0) {
                now.amplitudes[wheel] = -now.amplitudes[wheel];
                turned++;
            }
        }
        return turned;
    }

    public int drop(int least) throws IllegalArgumentException {
        if (isOutside(least, 1, LARGEST_AMPLITUDE)) {
            throw new IllegalArgumentException("least is out of range");
        }
        saved.push(now);
        int dropped = 0;
        for (int wheel = 0; wheel < SIZE; wheel++) {
            if (now.amplitudes[wheel] != 0 && Math.abs(now.amplitudes[wheel]) < least) {
                now.amplitudes[wheel] = 0;
                dropped++;
            }
        }
        return dropped;
    }

    // ---- the pattern

    public int point(int point, int number) throws IndexOutOfBoundsException, IllegalArgumentException {
        if (isNoPlace(point)) {
            throw new IndexOutOfBoundsException("there is no such point");
        }
        if (isOutside(number, -LARGEST_NUMBER, LARGEST_NUMBER)) {
            throw new IllegalArgumentException("the number is out of range");
        }
        saved.push(now);
        int before = now.pattern[point];
        now.pattern[point] = number;
        return before;
    }

    public int copy() {
        saved.push(now);
        int changed = 0;
        for (int point = 0; point < SIZE; point++) {
            int drawn = now.traceAt(point);
            if (now.pattern[point] != drawn) {
                now.pattern[point] = drawn;
                changed++;
            }
        }
        return changed;
    }

    public int fit() {
        saved.push(now);
        int changed = 0;
        for (int wheel = 0; wheel < SIZE; wheel++) {
            int fitting = Math.max(-LARGEST_AMPLITUDE, Math.min(LARGEST_AMPLITUDE, now.patternAmplitude(wheel)));
            if (now.amplitudes[wheel] != fitting) {
                now.amplitudes[wheel] = fitting;
                changed++;
            }
        }
        now.lostWheels = 0;
        now.changedByFits += changed;
        return changed;
    }

    // ---- texts, snapshots

    public int append(int code) throws IllegalArgumentException, IllegalStateException {
        if (isOutside(code, FIRST_CODE, LAST_CODE)) {
            throw new IllegalArgumentException("the code is out of range");
        }
        if (text.isFull()) {
            throw new IllegalStateException("the buffer is full");
        }
        text.put((char) code);
        return text.length;
    }

    public int clearBuffer() {
        int before = text.length;
        text.empty();
        return before;
    }

    public int firstError() {
        return text.errorPlace();
    }

    public int load() throws IllegalArgumentException {
        if (!text.tellsWheels()) {
            throw new IllegalArgumentException("the buffer does not tell wheels");
        }
        saved.push(now);
        text.tellTo(now);
        text.empty();
        return now.drawingWheels();
    }

    public int keep(int slot) throws IllegalArgumentException {
        if (isOutside(slot, 0, SLOTS - 1)) {
            throw new IllegalArgumentException("there is no such slot");
        }
        slots[slot].takeFrom(now);
        keptSlots |= 1 << slot;
        return now.drawingWheels();
    }

    public int goBack(int slot) throws IllegalArgumentException, IllegalStateException {
        if (isOutside(slot, 0, SLOTS - 1)) {
            throw new IllegalArgumentException("there is no such slot");
        }
        if (!hasSnapshot(slot)) {
            throw new IllegalStateException("there is no snapshot in the slot");
        }
        saved.push(now);
        now.takeFrom(slots[slot]);
        return now.drawingWheels();
    }

    public int undo() throws IllegalStateException {
        if (saved.count == 0) {
            throw new IllegalStateException("there is no saved state");
        }
        saved.popInto(now);
        return saved.count;
    }

    // ---- looks; nothing is changed

    public int wheelOf(int wheel, int what) throws IndexOutOfBoundsException, IllegalArgumentException {
        if (isNoPlace(wheel)) {
            throw new IndexOutOfBoundsException("there is no such wheel");
        }
        if (isOutside(what, 0, 3)) {
            throw new IllegalArgumentException("what is not 0 to 3");
        }
        return wheelNumber(wheel, what);
    }

    public int trace(int point, int what) throws IndexOutOfBoundsException, IllegalArgumentException {
        if (isNoPlace(point)) {
            throw new IndexOutOfBoundsException("there is no such point");
        }
        if (isOutside(what, 0, 1)) {
            throw new IllegalArgumentException("what is not 0 or 1");
        }
        return traceNumber(point, what);
    }

    public int pointOf(int point, int what) throws IndexOutOfBoundsException, IllegalArgumentException {
        if (isNoPlace(point)) {
            throw new IndexOutOfBoundsException("there is no such point");
        }
        if (isOutside(what, 0, 2)) {
            throw new IllegalArgumentException("what is not 0 to 2");
        }
        return pointNumber(point, what);
    }

    public int count(int what) throws IllegalArgumentException {
        if (isOutside(what, 0, 8)) {
            throw new IllegalArgumentException("what is not 0 to 8");
        }
        return countNumber(what);
    }

    // ---- what would be; nothing is changed

    public int findLost() {
        // Every wave is 1 at the point 0, so the one number can only be the difference there.
        int number = now.differenceAt(0);
        if (number == 0) {
            return NONE;
        }
        for (int wheel = 0; wheel < SIZE; wheel++) {
            if (isDifference(number, wheel)) {
                return wheel;
            }
        }
        return NONE;
    }

    public int enough(int error, int what) throws IllegalArgumentException {
        if (isOutside(error, 0, LARGEST_ERROR)) {
            throw new IllegalArgumentException("the error is out of range");
        }
        if (isOutside(what, 0, 1)) {
            throw new IllegalArgumentException("what is not 0 or 1");
        }
        return fewestNumber(error, what);
    }

    public int ifTurned(int by, int point) throws IndexOutOfBoundsException, IllegalArgumentException {
        if (isNoPlace(point)) {
            throw new IndexOutOfBoundsException("there is no such point");
        }
        if (isNoPlace(by)) {
            throw new IllegalArgumentException("by is out of range");
        }
        return now.traceAt(point ^ by);
    }

    public int bestTurn() {
        int best = 0;
        int leastSum = differencesIfTurned(0);
        for (int by = 1; by < SIZE; by++) {
            int sum = differencesIfTurned(by);
            if (sum < leastSum) {
                leastSum = sum;
                best = by;
            }
        }
        return best;
    }

    public double mainShare() {
        int greatest = 0;
        int all = 0;
        for (int wheel = 0; wheel < SIZE; wheel++) {
            int square = now.drawnAmplitude(wheel) * now.drawnAmplitude(wheel);
            greatest = Math.max(greatest, square);
            all += square;
        }
        return all == 0 ? 0.0 : (double) greatest / (double) all;
    }

    public long digest() {
        long hash = DIGEST_START;
        for (int what = 0; what <= 8; what++) {
            hash = hashed(hash, countNumber(what));
        }
        hash = hashedWheels(hash);
        hash = hashedPoints(hash);
        hash = hashed(hash, findLost());
        hash = hashedFewest(hash, 0);
        hash = hashedFewest(hash, 1000);
        hash = hashedFewest(hash, 100000);
        for (int point = 0; point < SIZE; point++) {
            hash = hashed(hash, now.traceAt(point ^ DIGEST_TURN));
        }
        hash = hashed(hash, bestTurn());
        hash = hashed(hash, bitsOfShare(mainShare()));
        for (int slot = 0; slot < SLOTS; slot++) {
            hash = hashed(hash, hasSnapshot(slot) ? 1 : 0);
        }
        hash = hashed(hash, text.length);
        for (int i = 0; i < text.length; i++) {
            hash = hashed(hash, text.signs[i]);
        }
        return hash;
    }

    // ---- the numbers behind the looks; their arguments are tested already

    private static boolean isOutside(int number, int least, int greatest) {
        return number < least || number > greatest;
    }

    private static boolean isNoPlace(int number) {
        return isOutside(number, 0, SIZE - 1);
    }

    private static int wave(int wheel, int point) {
        return (Integer.bitCount(wheel & point) & 1) == 0 ? 1 : -1;
    }

    private boolean hasSnapshot(int slot) {
        return (keptSlots >> slot & 1) == 1;
    }

    private int wheelNumber(int wheel, int what) {
        switch (what) {
            case 0: return now.amplitudes[wheel];
            case 1: return now.isLost(wheel) ? 1 : 0;
            case 2: return now.patternAmplitude(wheel);
            default: return changesOfWave(wheel);
        }
    }

    private static int changesOfWave(int wheel) {
        int changes = 0;
        for (int point = 0; point < SIZE - 1; point++) {
            if (wave(wheel, point) != wave(wheel, point + 1)) {
                changes++;
            }
        }
        return changes;
    }

    private int traceNumber(int point, int what) {
        if (what == 0) {
            return now.traceAt(point);
        }
        for (int wheel = 0; wheel < SIZE; wheel++) {
            row[wheel] = now.drawnAmplitude(wheel);
        }
        addAndSubtractHalves();
        return row[point];
    }

    /** Works on parts of the row of 8, then 4, then 2, each in its place. */
    private void addAndSubtractHalves() {
        for (int half = SIZE / 2; half > 0; half /= 2) {
            for (int i = 0; i + half < SIZE; i++) {
                if ((i & half) == 0) {
                    int first = row[i];
                    int second = row[i + half];
                    row[i] = first + second;
                    row[i + half] = first - second;
                }
            }
        }
    }

    private int pointNumber(int point, int what) {
        switch (what) {
            case 0: return now.pattern[point];
            case 1: return now.differenceAt(point);
            default: return now.jumpAt(point);
        }
    }

    private int countNumber(int what) {
        switch (what) {
            case 0: return now.drawingWheels();
            case 1: return Integer.bitCount(now.lostWheels);
            case 2: return greatestTrace();
            case 3: return leastTrace();
            case 4: return greatestDifference();
            case 5: return greatestJump();
            case 6: return overshoot();
            case 7: return now.changedByFits;
            default: return saved.count;
        }
    }

    private int greatestTrace() {
        int greatest = now.traceAt(0);
        for (int point = 1; point < SIZE; point++) {
            greatest = Math.max(greatest, now.traceAt(point));
        }
        return greatest;
    }

    private int leastTrace() {
        int least = now.traceAt(0);
        for (int point = 1; point < SIZE; point++) {
            least = Math.min(least, now.traceAt(point));
        }
        return least;
    }

    private int greatestDifference() {
        int greatest = 0;
        for (int point = 0; point < SIZE; point++) {
            greatest = Math.max(greatest, Math.abs(now.differenceAt(point)));
        }
        return greatest;
    }

    private int greatestJump() {
        int greatest = 0;
        for (int point = 0; point < SIZE; point++) {
            greatest = Math.max(greatest, Math.abs(now.jumpAt(point)));
        }
        return greatest;
    }

    private int overshoot() {
        return Math.max(greatestTrace(), -leastTrace()) - Math.abs(now.drawnAmplitude(0));
    }

    private boolean isDifference(int number, int wheel) {
        for (int point = 0; point < SIZE; point++) {
            if (now.differenceAt(point) != number * wave(wheel, point)) {
                return false;
            }
        }
        return true;
    }

    private int fewestNumber(int error, int what) {
        for (int wheel = 0; wheel < SIZE; wheel++) {
            row[wheel] = now.errorWithout(wheel);
        }
        return what == 0 ? fewestByDropping(error) : fewestOfAllSets(error);
    }

    /** Takes the errors of single wheels from the row, and uses the row up. */
    private int fewestByDropping(int error) {
        int allowed = error;
        int left = 0;
        for (int wheel = 0; wheel < SIZE; wheel++) {
            left += row[wheel] > 0 ? 1 : 0;
        }
        for (int step = 0; step < SIZE; step++) {
            int wheel = leastInRow();
            if (wheel == NONE || row[wheel] > allowed) {
                return left;
            }
            allowed -= row[wheel];
            row[wheel] = 0;
            left--;
        }
        return left;
    }

    /** A 0 in the row is a wheel that draws nothing, or that is left out already. */
    private int leastInRow() {
        int least = NONE;
        for (int wheel = 0; wheel < SIZE; wheel++) {
            if (row[wheel] > 0 && (least == NONE || row[wheel] < row[least])) {
                least = wheel;
            }
        }
        return least;
    }

    /** Takes the errors of single wheels from the row; a set is a number with a bit for each wheel in it. */
    private int fewestOfAllSets(int error) {
        int fewest = SIZE;
        for (int kept = 0; kept < 1 << SIZE; kept++) {
            int wheels = 0;
            int errorOfOthers = 0;
            for (int wheel = 0; wheel < SIZE; wheel++) {
                if ((kept >> wheel & 1) == 0) {
                    errorOfOthers += row[wheel];
                } else if (row[wheel] > 0) {
                    wheels++;
                }
            }
            if (errorOfOthers <= error && wheels < fewest) {
                fewest = wheels;
            }
        }
        return fewest;
    }

    private int differencesIfTurned(int by) {
        int sum = 0;
        for (int point = 0; point < SIZE; point++) {
            sum += Math.abs(now.pattern[point] - now.traceAt(point ^ by));
        }
        return sum;
    }

    // ---- the parts of the digest

    private static long hashed(long hash, long value) {
        return 31L * hash + value;
    }

    private long hashedWheels(long start) {
        long hash = start;
        for (int wheel = 0; wheel < SIZE; wheel++) {
            for (int what = 0; what <= 3; what++) {
                hash = hashed(hash, wheelNumber(wheel, what));
            }
        }
        return hash;
    }

    private long hashedPoints(long start) {
        long hash = start;
        for (int point = 0; point < SIZE; point++) {
            hash = hashed(hash, traceNumber(point, 0));
            hash = hashed(hash, traceNumber(point, 1));
            for (int what = 0; what <= 2; what++) {
                hash = hashed(hash, pointNumber(point, what));
            }
        }
        return hash;
    }

    private long hashedFewest(long start, int error) {
        long hash = hashed(start, fewestNumber(error, 0));
        return hashed(hash, fewestNumber(error, 1));
    }

    /**
     * The bits of a share as Double.doubleToLongBits tells them, which the language does without.
     * Doubling a double and taking away from its exponent lose nothing, so the bits are exact.
     */
    private static long bitsOfShare(double share) {
        if (share <= 0.0) {
            return 0L;
        }
        double fraction = share;
        long exponent = EXPONENT_OF_ONE;
        // A share that is not 0 is at least 1 of 8 wheels.
        for (int step = 0; step < SIZE && fraction < 1.0; step++) {
            fraction = fraction * 2.0;
            exponent--;
        }
        long digits = (long) (fraction * (double) FRACTION_OF_ONE);
        return (exponent << FRACTION_BITS) + (digits - FRACTION_OF_ONE);
    }

    /** All that a snapshot has: the wheels, the pattern, and what is counted so far. */
    private static final class Gears {
        private final int[] amplitudes = new int[SIZE];
        private final int[] pattern = new int[SIZE];
        /** Bit k tells whether the wheel k is lost. */
        private int lostWheels = 0;
        private int changedByFits = 0;

        private void takeFrom(Gears other) {
            System.arraycopy(other.amplitudes, 0, amplitudes, 0, SIZE);
            System.arraycopy(other.pattern, 0, pattern, 0, SIZE);
            lostWheels = other.lostWheels;
            changedByFits = other.changedByFits;
        }

        private boolean isLost(int wheel) {
            return (lostWheels >> wheel & 1) == 1;
        }

        private int drawnAmplitude(int wheel) {
            return isLost(wheel) ? 0 : amplitudes[wheel];
        }

        /** Counts lost ones, too. */
        private int drawingWheels() {
            int drawing = 0;
            for (int wheel = 0; wheel < SIZE; wheel++) {
                drawing += amplitudes[wheel] != 0 ? 1 : 0;
            }
            return drawing;
        }

        private int traceAt(int point) {
            int sum = 0;
            for (int wheel = 0; wheel < SIZE; wheel++) {
                sum += drawnAmplitude(wheel) * wave(wheel, point);
            }
            return sum;
        }

        private int differenceAt(int point) {
            return pattern[point] - traceAt(point);
        }

        private int jumpAt(int point) {
            return traceAt((point + 1) % SIZE) - traceAt(point);
        }

        private int patternAmplitude(int wheel) {
            int sum = 0;
            for (int point = 0; point < SIZE; point++) {
                sum += pattern[point] * wave(wheel, point);
            }
            return Math.floorDiv(sum, SIZE);
        }

        private int errorWithout(int wheel) {
            return SIZE * drawnAmplitude(wheel) * drawnAmplitude(wheel);
        }
    }

    /** The latest saved states, in a ring: the oldest one gives its place to the next. */
    private static final class SavedGears {
        private static final int MOST = 6;

        private final Gears[] ring = new Gears[MOST];
        private int next = 0;
        private int count = 0;

        private SavedGears() {
            for (int i = 0; i < MOST; i++) {
                ring[i] = new Gears();
            }
        }

        private void push(Gears gears) {
            ring[next].takeFrom(gears);
            next = (next + 1) % MOST;
            count = Math.min(count + 1, MOST);
        }

        /** Only for a count above 0. */
        private void popInto(Gears gears) {
            next = (next + MOST - 1) % MOST;
            count--;
            gears.takeFrom(ring[next]);
        }
    }

    /** The buffer, and the grammar of wheels as a text. */
    private static final class WheelText {
        private static final int LONGEST = 60;

        private static final int AT_LETTER = 0;
        private static final int BEHIND_LETTER = 1;
        private static final int BEHIND_EQUALS = 2;
        private static final int BEHIND_MINUS = 3;
        private static final int BEHIND_ONE_DIGIT = 4;
        private static final int AT_END_OF_WHEEL = 5;

        private final char[] signs = new char[LONGEST];
        private int length = 0;

        private boolean isFull() {
            return length >= LONGEST;
        }

        /** Only while it is not full. */
        private void put(char sign) {
            signs[length] = sign;
            length++;
        }

        private void empty() {
            length = 0;
        }

        private int errorPlace() {
            int place = AT_LETTER;
            for (int i = 0; i < length; i++) {
                place = placeBehind(place, signs[i]);
                if (place == NONE) {
                    return i;
                }
            }
            return length;
        }

        private boolean tellsWheels() {
            int place = AT_LETTER;
            for (int i = 0; i < length && place != NONE; i++) {
                place = placeBehind(place, signs[i]);
            }
            return place == BEHIND_ONE_DIGIT || place == AT_END_OF_WHEEL;
        }

        /** NONE if the sign is a syntax error there. */
        private static int placeBehind(int place, char sign) {
            switch (place) {
                case AT_LETTER: return isLetter(sign) ? BEHIND_LETTER : NONE;
                case BEHIND_LETTER: return sign == '=' ? BEHIND_EQUALS : sign == '!' ? AT_END_OF_WHEEL : NONE;
                case BEHIND_EQUALS: return sign == '-' ? BEHIND_MINUS : placeBehindFirstDigit(sign);
                case BEHIND_MINUS: return sign == '0' ? NONE : placeBehindFirstDigit(sign);
                case BEHIND_ONE_DIGIT: return isDigit(sign) ? AT_END_OF_WHEEL : placeBehindWheel(sign);
                default: return placeBehindWheel(sign);
            }
        }

        /** A 0 stands alone, for there are no leading zeros. */
        private static int placeBehindFirstDigit(char sign) {
            if (!isDigit(sign)) {
                return NONE;
            }
            return sign == '0' ? AT_END_OF_WHEEL : BEHIND_ONE_DIGIT;
        }

        private static int placeBehindWheel(char sign) {
            return sign == ';' ? AT_LETTER : NONE;
        }

        private static boolean isLetter(char sign) {
            return sign >= 'a' && sign <= 'h';
        }

        private static boolean isDigit(char sign) {
            return sign >= '0' && sign <= '9';
        }

        /** Only for a text that tells wheels. */
        private void tellTo(Gears gears) {
            for (int wheel = 0; wheel < SIZE; wheel++) {
                gears.amplitudes[wheel] = 0;
            }
            gears.lostWheels = 0;
            int wheel = 0;
            boolean negative = false;
            for (int i = 0; i < length; i++) {
                char sign = signs[i];
                if (isLetter(sign)) {
                    wheel = sign - 'a';
                } else if (sign == '!') {
                    gears.lostWheels |= 1 << wheel;
                } else if (sign == '=') {
                    // What an earlier "=" told of this wheel no longer counts.
                    gears.amplitudes[wheel] = 0;
                    negative = false;
                } else if (sign == '-') {
                    negative = true;
                } else if (isDigit(sign)) {
                    int digit = sign - '0';
                    gears.amplitudes[wheel] = gears.amplitudes[wheel] * 10 + (negative ? -digit : digit);
                }
            }
        }
    }
}
