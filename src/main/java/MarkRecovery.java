/**
 * What is left of broken files: parts are searched by marks, broken heads are guessed,
 * each part is decoded alone, and a map tells which samples are sure.
 */
public final class MarkRecovery {
    public static final int NONE = -1;

    private static final int[] MARK_FIRST = {255, 80, 151};
    private static final int[] MARK_SECOND = {217, 65, 74};
    private static final int LAST_KIND = 2;
    private static final int MOST_STEPS = 65536;
    private static final int MOST_BYTES = 1200;
    private static final int MOST_FED = 8;
    private static final int BYTE_MASK = 255;

    private static final int HEAD_LENGTH = 6;
    private static final int MOST_PARTS = 16;
    private static final int LAST_NUMBER = 15;
    private static final int LAST_CODE = 4;
    private static final int MOST_DATA = 64;

    // The columns of a part's row: the numbers are those by which part() is asked.
    private static final int START = 0;
    private static final int NUMBER = 1;
    private static final int CODE = 2;
    private static final int SIZE = 3;
    private static final int GUESSED = 4;
    private static final int THROWN = 5;
    private static final int PART_COLUMNS = 6;

    private final int kind;
    private final int steps;
    private final int[] bytes = new int[MOST_BYTES];
    private final int[][] parts = new int[MOST_PARTS][PART_COLUMNS];
    private final Decoder decoder = new Decoder();
    private final SampleMap map = new SampleMap();
    private int byteCount;
    private int partCount;
    private int stepsTaken;
    private boolean hasRun;
    private boolean lackedSteps;
    private int decodings;
    private int thrownDecodings;

    public MarkRecovery(int kind, int steps) {
        this.kind = Math.max(0, Math.min(LAST_KIND, kind));
        this.steps = Math.max(1, Math.min(MOST_STEPS, steps));
    }

    public int feed(long bytes, int n) throws IllegalArgumentException, UnsupportedOperationException {
        if (n < 1 || n > MOST_FED) {
            throw new IllegalArgumentException("one to eight bytes can be fed");
        }
        if (n > MOST_BYTES - byteCount) {
            throw new UnsupportedOperationException("no room for so many bytes");
        }
        for (int i = 0; i < n; i++) {
            this.bytes[byteCount + i] = (int) (bytes >> (8 * i)) & BYTE_MASK;
        }
        byteCount += n;
        forgetParts();
        return byteCount;
    }

    public int alter(int i, int b) throws IndexOutOfBoundsException, IllegalArgumentException {
        if (i < 0 || i >= byteCount) {
            throw new IndexOutOfBoundsException("no such byte");
        }
        if (b < 0 || b > BYTE_MASK) {
            throw new IllegalArgumentException("a byte is 0 to 255");
        }
        int before = bytes[i];
        bytes[i] = b;
        forgetParts();
        return before;
    }

    public int run() {
        forgetParts();
        map.forgetAll();
        stepsTaken = 0;
        int place = 0;
        while (stepsTaken < steps && place < byteCount && partCount < MOST_PARTS) {
            stepsTaken++;
            place = lookAt(place);
        }
        lackedSteps = place < byteCount && partCount < MOST_PARTS;
        hasRun = true;
        return partCount;
    }

    public int part(int k, int what) throws IllegalStateException, IndexOutOfBoundsException {
        requirePart(k);
        return what >= 0 && what < PART_COLUMNS ? parts[k][what] : NONE;
    }

    public int decode(int k) throws IllegalStateException, IndexOutOfBoundsException {
        requirePart(k);
        return decodePart(parts[k]);
    }

    public int decodeAll() throws IllegalStateException {
        requireRun();
        int thrown = 0;
        for (int k = 0; k < partCount; k++) {
            if (decodePart(parts[k]) != 0) {
                thrown++;
            }
        }
        return thrown;
    }

    public int at(int i) throws IndexOutOfBoundsException {
        requireSample(i);
        return map.values[i];
    }

    public int state(int i) throws IndexOutOfBoundsException {
        requireSample(i);
        return map.states[i];
    }

    public int fill(int rule) throws IllegalArgumentException {
        if (rule < 0 || rule > SampleMap.LAST_RULE) {
            throw new IllegalArgumentException("the rules are 0 to 2");
        }
        return map.fillUntold(rule);
    }

    public int told(int what) {
        switch (what) {
            case 0: return kind;
            case 1: return steps;
            case 2: return byteCount;
            case 3: return partCount;
            case 4: return stepsTaken;
            case 5: return lackedSteps ? 1 : 0;
            case 6: return decodings;
            case 7: return thrownDecodings;
            case 8: return map.countSure();
            default: return NONE;
        }
    }

    public void clear() {
        byteCount = 0;
        forgetParts();
        stepsTaken = 0;
        lackedSteps = false;
        map.forgetAll();
    }

    private void forgetParts() {
        partCount = 0;
        hasRun = false;
    }

    private void requireRun() {
        if (!hasRun) {
            throw new IllegalStateException("nothing was run");
        }
    }

    private void requirePart(int k) {
        requireRun();
        if (k < 0 || k >= partCount) {
            throw new IndexOutOfBoundsException("no such part");
        }
    }

    private static void requireSample(int i) {
        if (i < 0 || i >= SampleMap.SAMPLES) {
            throw new IndexOutOfBoundsException("no such sample");
        }
    }

    /** Answers the place at which the search goes on. */
    private int lookAt(int place) {
        if (!markStandsAt(place) || place + HEAD_LENGTH > byteCount) {
            return place + 1;
        }
        if (headIsRight(place) && dataAreThere(place)) {
            return keepPart(place, bytes[place + 2], bytes[place + 3], bytes[place + 4], 0);
        }
        return partCount > 0 ? guessPart(place) : place + 1;
    }

    private boolean markStandsAt(int place) {
        return place + 1 < byteCount
                && bytes[place] == MARK_FIRST[kind]
                && bytes[place + 1] == MARK_SECOND[kind];
    }

    private boolean headIsRight(int place) {
        int number = bytes[place + 2];
        int code = bytes[place + 3];
        int size = bytes[place + 4];
        int check = (7 * number + 31 * code + size + 165) % 256;
        return number <= LAST_NUMBER && code <= LAST_CODE && size <= MOST_DATA
                && bytes[place + 5] == check;
    }

    private boolean dataAreThere(int place) {
        return place + HEAD_LENGTH + bytes[place + 4] <= byteCount;
    }

    private int guessPart(int place) {
        int[] before = parts[partCount - 1];
        int number = (before[NUMBER] + 1) % (LAST_NUMBER + 1);
        return keepPart(place, number, before[CODE], guessSize(place + HEAD_LENGTH), 1);
    }

    private int guessSize(int from) {
        int size = 0;
        while (size < MOST_DATA && stepsTaken < steps
                && from + size < byteCount && !markStandsAt(from + size)) {
            size++;
            stepsTaken++;
        }
        return size;
    }

    /** Answers the place behind the part's data. */
    private int keepPart(int place, int number, int code, int size, int guessed) {
        int[] part = parts[partCount];
        part[START] = place;
        part[NUMBER] = number;
        part[CODE] = code;
        part[SIZE] = size;
        part[GUESSED] = guessed;
        part[THROWN] = NONE;
        partCount++;
        return place + HEAD_LENGTH + size;
    }

    private int decodePart(int[] part) {
        decoder.load(bytes, part[START] + HEAD_LENGTH, part[SIZE]);
        int thrown = decoder.makeSamples(part[CODE]);
        part[THROWN] = thrown;
        decodings++;
        if (thrown != 0) {
            thrownDecodings++;
        } else {
            map.tellRow(part[NUMBER], decoder.made, part[GUESSED] == 1);
        }
        return thrown;
    }

    /**
     * Reads the data of one part into a row of its own, so that a part by which
     * something is thrown halfway leaves the map as it was.
     */
    private static final class Decoder {
        private static final int NOTHING = 0;
        private static final int NOT_THERE = 1;
        private static final int BY_ZERO = 2;
        private static final int EMPTY_BOX = 3;
        private static final int OTHER_KIND = 4;
        private static final int BELOW_ZERO = 5;
        private static final int REFUSED = 6;

        private final int[] data = new int[MOST_DATA];
        private final int[] made = new int[SampleMap.ROW];
        private final Boxes boxes = new Boxes();
        private int size;
        private int count;

        private void load(int[] bytes, int from, int length) {
            size = length;
            count = 0;
            System.arraycopy(bytes, from, data, 0, length);
        }

        private int makeSamples(int code) {
            switch (code) {
                case 0: return copyBytes();
                case 1: return repeatValues();
                case 2: return divide();
                case 3: return useBoxes();
                default: return addDifferences();
            }
        }

        private boolean isFull() {
            return count >= made.length;
        }

        private void add(int sample) {
            made[count] = sample;
            count++;
        }

        private int sampleBefore() {
            return count > 0 ? made[count - 1] : 0;
        }

        /** The data ended: that is thrown only if there are still samples to make. */
        private int atEnd() {
            return isFull() ? NOTHING : NOT_THERE;
        }

        private int copyBytes() {
            for (int i = 0; i < size && !isFull(); i++) {
                add(data[i]);
            }
            return atEnd();
        }

        private int repeatValues() {
            for (int i = 0; i + 1 < size && !isFull(); i += 2) {
                if (data[i] > made.length - count) {
                    return NOT_THERE;
                }
                for (int n = 0; n < data[i]; n++) {
                    add(data[i + 1]);
                }
            }
            return atEnd();
        }

        private int divide() {
            for (int i = 0; i + 1 < size && !isFull(); i += 2) {
                if (data[i + 1] == 0) {
                    return BY_ZERO;
                }
                add(16 * data[i] / data[i + 1] % 256);
            }
            return atEnd();
        }

        private int addDifferences() {
            for (int i = 0; i < size && !isFull(); i++) {
                // The first byte is no difference, so its upper half is not below zero.
                int sample = i == 0 ? data[0] : sampleBefore() + signed(data[i]);
                if (sample < 0 || sample > BYTE_MASK) {
                    return REFUSED;
                }
                add(sample);
            }
            return atEnd();
        }

        private static int signed(int b) {
            return b < 128 ? b : b - 256;
        }

        private int useBoxes() {
            boxes.emptyAll();
            for (int i = 0; i + 1 < size && !isFull(); i += 2) {
                int op = data[i] % 8;
                int box = data[i + 1] % 8;
                int number = data[i + 1] / 8;
                int thrown = boxes.thrownBy(op, box, number);
                if (thrown != NOTHING) {
                    return thrown;
                }
                doOperation(op, box, number);
            }
            return atEnd();
        }

        /** Only for an operation by which nothing is thrown. */
        private void doOperation(int op, int box, int number) {
            switch (op) {
                case 0: boxes.putNumber(box, number); break;
                case 1: boxes.putRow(box, Boxes.rowLength(number)); break;
                case 2: add(boxes.numbers[box]); break;
                case 3: add(boxes.lengths[box]); break;
                case 4: boxes.rows[box][number] = sampleBefore(); break;
                case 5: add(boxes.rows[box][number]); break;
                default: boxes.holds[box] = Boxes.HOLDS_NOTHING; break;
            }
        }
    }

    /** The boxes of code 3. */
    private static final class Boxes {
        private static final int BOXES = 8;
        private static final int LONGEST_ROW = 5;
        private static final int HOLDS_NOTHING = 0;
        private static final int HOLDS_NUMBER = 1;
        private static final int HOLDS_ROW = 2;

        private final int[] holds = new int[BOXES];
        private final int[] numbers = new int[BOXES];
        private final int[] lengths = new int[BOXES];
        private final int[][] rows = new int[BOXES][LONGEST_ROW];

        private void emptyAll() {
            for (int box = 0; box < BOXES; box++) {
                holds[box] = HOLDS_NOTHING;
            }
        }

        private void putNumber(int box, int number) {
            holds[box] = HOLDS_NUMBER;
            numbers[box] = number;
        }

        private void putRow(int box, int length) {
            holds[box] = HOLDS_ROW;
            lengths[box] = length;
            for (int i = 0; i < LONGEST_ROW; i++) {
                rows[box][i] = 0;
            }
        }

        private static int rowLength(int number) {
            return number % 8 - 2;
        }

        private int thrownBy(int op, int box, int number) {
            switch (op) {
                case 1: return rowLength(number) < 0 ? Decoder.BELOW_ZERO : Decoder.NOTHING;
                case 2: return thrownUnless(box, HOLDS_NUMBER);
                case 3: return thrownUnless(box, HOLDS_ROW);
                case 4:
                case 5: return thrownUnlessInRow(box, number);
                case 7: return Decoder.REFUSED;
                default: return Decoder.NOTHING;
            }
        }

        private int thrownUnless(int box, int wanted) {
            if (holds[box] == HOLDS_NOTHING) {
                return Decoder.EMPTY_BOX;
            }
            return holds[box] == wanted ? Decoder.NOTHING : Decoder.OTHER_KIND;
        }

        private int thrownUnlessInRow(int box, int i) {
            int thrown = thrownUnless(box, HOLDS_ROW);
            if (thrown != Decoder.NOTHING) {
                return thrown;
            }
            return i < lengths[box] ? Decoder.NOTHING : Decoder.NOT_THERE;
        }
    }

    /** The samples with what is known of each. */
    private static final class SampleMap {
        private static final int SAMPLES = 256;
        private static final int ROW = 16;
        private static final int LAST_RULE = 2;

        private static final int UNTOLD = 0;
        private static final int SURE = 1;
        private static final int GUESS = 2;
        private static final int FILLED = 3;

        private static final int HIGHEST = 255;
        private static final int MIDDLE = 128;

        private final int[] values = new int[SAMPLES];
        private final int[] states = new int[SAMPLES];

        private SampleMap() {
            forgetAll();
        }

        private void forgetAll() {
            for (int i = 0; i < SAMPLES; i++) {
                values[i] = NONE;
                states[i] = UNTOLD;
            }
        }

        private void tellRow(int row, int[] samples, boolean guessed) {
            for (int i = 0; i < ROW; i++) {
                int sample = row * ROW + i;
                if (!guessed || states[sample] != SURE) {
                    values[sample] = samples[i];
                    states[sample] = guessed ? GUESS : SURE;
                }
            }
        }

        private int countSure() {
            int sure = 0;
            for (int i = 0; i < SAMPLES; i++) {
                if (states[i] == SURE) {
                    sure++;
                }
            }
            return sure;
        }

        private int fillUntold(int rule) {
            int filled = 0;
            for (int i = 0; i < SAMPLES; i++) {
                if (states[i] == UNTOLD || states[i] == FILLED) {
                    values[i] = valueByRule(i, rule);
                    states[i] = FILLED;
                    filled++;
                }
            }
            return filled;
        }

        private int valueByRule(int i, int rule) {
            switch (rule) {
                case 0: return meanOf(valueLeftOf(i), valueAbove(i));
                case 1: return HIGHEST;
                default: return i < ROW ? HIGHEST : valueAbove(i);
            }
        }

        // Filling goes in order, so what stands left and above has its value already.
        private int valueLeftOf(int i) {
            return i % ROW == 0 ? NONE : values[i - 1];
        }

        private int valueAbove(int i) {
            return i < ROW ? NONE : values[i - ROW];
        }

        private static int meanOf(int left, int above) {
            if (left == NONE && above == NONE) {
                return MIDDLE;
            }
            if (left == NONE) {
                return above;
            }
            return above == NONE ? left : (left + above) / 2;
        }
    }
}
