import java.util.ArrayList;
import java.util.Arrays;
import java.util.List;
import java.util.Random;

/**
 * Long runs of chosen calls, each answer compared with that of a model which is written
 * otherwise: its decoders let the machine throw and its wall takes that.
 */
public final class ModelTest {
    private static final int RUNS = 3000;
    private static final int CALLS = 500;
    private static final int[][] MARKS = {{255, 217}, {80, 65}, {151, 74}};

    public static void main(String[] args) {
        Check check = new Check();
        for (int seed = 0; seed < RUNS; seed++) {
            new ModelTest(check, seed).makeCalls();
        }
        check.end();
    }

    private final Check check;
    private final Random random;
    private final String name;
    private final MarkRecovery real;
    private final Model model;
    private final int kind;

    private ModelTest(Check check, int seed) {
        this.check = check;
        random = new Random(seed);
        name = "run " + seed + ": ";
        kind = random.nextInt(3);
        int steps = random.nextInt(3) == 0 ? 1 + random.nextInt(200) : 65536;
        real = new MarkRecovery(kind, steps);
        model = new Model(kind, steps);
    }

    private void makeCalls() {
        int calls = 0;
        while (calls < CALLS) {
            calls += random.nextInt(12) == 0 ? feedPiece() : callOnce();
        }
    }

    private int callOnce() {
        int a = around(17);
        int b = around(8);
        int sample = random.nextInt(20) == 0 ? around(300) : random.nextInt(256);
        switch (random.nextInt(14)) {
            case 0: return same("run()", real::run, model::search);
            case 1: return same("part " + a + " " + b, () -> real.part(a, b), () -> model.part(a, b));
            case 2: return same("part 0 " + b, () -> real.part(0, b), () -> model.part(0, b));
            case 3: return same("decode " + a, () -> real.decode(a), () -> model.decode(a));
            case 4: return same("decodeAll()", real::decodeAll, model::decodeAll);
            case 5: return random.nextInt(4) == 0 ? alterOne() : 0;
            case 6: return same("fill " + b, () -> real.fill(b), () -> model.fill(b));
            case 7: return random.nextInt(60) == 0 ? clearBoth() : 0;
            case 8:
            case 9: return same("told " + b, () -> real.told(b), () -> model.told(b));
            case 10:
            case 11: return same("at " + sample, () -> real.at(sample), () -> model.at(sample));
            default: return same("state " + sample, () -> real.state(sample), () -> model.state(sample));
        }
    }

    private int around(int bound) {
        return random.nextInt(bound + 3) - 1;
    }

    private int same(String call, Check.Call made, Check.Call due) {
        long want;
        try {
            want = due.answer();
        } catch (RuntimeException thrown) {
            check.dueThrow(name + call, thrown.getClass(), made);
            return 1;
        }
        check.due(name + call, want, made);
        return 1;
    }

    private int alterOne() {
        int i = random.nextInt(3) == 0 ? around(1200) : around(model.bytes.size());
        int b = around(256);
        return same("alter " + i + " " + b, () -> real.alter(i, b), () -> model.alter(i, b));
    }

    private int clearBoth() {
        real.clear();
        model.clear();
        return 1;
    }

    private int feedPiece() {
        int[] bytes = piece();
        int calls = 0;
        for (int from = 0; from < bytes.length; from += 8) {
            int n = random.nextInt(40) == 0 ? around(9) : Math.min(8, bytes.length - from);
            long packed = random.nextLong() << 8;
            for (int i = Math.min(8, bytes.length - from) - 1; i >= 0; i--) {
                packed = packed << 8 | bytes[from + i];
            }
            long fed = packed;
            calls += same("feed " + fed + " " + n, () -> real.feed(fed, n), () -> model.feed(fed, n));
        }
        return calls;
    }

    private int[] piece() {
        int code = random.nextInt(5);
        int[] data = data(code);
        switch (random.nextInt(8)) {
            case 0: return data;
            case 1: return Check.broken(kind, data);
            case 2: return Check.join(Check.head(kind, random.nextInt(18), code, random.nextInt(70)), data);
            case 3: return MARKS[kind];
            default: return Check.part(kind, random.nextInt(16), code, data);
        }
    }

    private int[] data(int code) {
        int length = random.nextInt(4) == 0 ? random.nextInt(65) : 40 + random.nextInt(25);
        int[] data = new int[length];
        for (int i = 0; i < length; i++) {
            data[i] = dataByte(code, i);
        }
        return data;
    }

    private int dataByte(int code, int i) {
        boolean wild = random.nextInt(100) == 0;
        if (wild || code == 0 || i % 2 == 1 && code == 1) {
            return random.nextInt(256);
        }
        switch (code) {
            case 1: return random.nextInt(5);
            case 2: return 1 + random.nextInt(255);
            case 3: return i % 2 == 0 ? operation(i) : 8 * random.nextInt(8) + random.nextInt(2);
            default: return i == 0 ? 128 : random.nextInt(20) - 10 & 255;
        }
    }

    /** Boxes get something first, then are mostly asked. */
    private int operation(int i) {
        return i < 12 ? random.nextInt(2) : random.nextInt(32) == 0 ? 7 : random.nextInt(7);
    }

    /** The document once more, with the library's lists and the machine's own exceptions. */
    private static final class Model {
        private final int kind;
        private final int steps;
        private final List<Integer> bytes = new ArrayList<>();
        private List<int[]> parts;
        private final Integer[] values = new Integer[256];
        private final int[] states = new int[256];
        private int taken;
        private boolean lacked;
        private int decodings;
        private int thrownDecodings;

        Model(int kind, int steps) {
            this.kind = kind;
            this.steps = steps;
        }

        int feed(long packed, int n) {
            need(n >= 1 && n <= 8, new IllegalArgumentException());
            need(bytes.size() + n <= 1200, new UnsupportedOperationException());
            for (int i = 0; i < n; i++) {
                bytes.add((int) (packed >>> 8 * i & 255));
            }
            parts = null;
            return bytes.size();
        }

        int alter(int i, int b) {
            need(i >= 0 && i < bytes.size(), new IndexOutOfBoundsException());
            need(b >= 0 && b <= 255, new IllegalArgumentException());
            parts = null;
            return bytes.set(i, b);
        }

        int search() {
            parts = new ArrayList<>();
            Arrays.fill(values, null);
            Arrays.fill(states, 0);
            int left = steps;
            int place = 0;
            while (place < bytes.size() && left > 0 && parts.size() < 16) {
                left--;
                int[] part = rightPart(place);
                if (part == null && isHead(place) && !parts.isEmpty()) {
                    part = guessedPart(place, left);
                    left -= part[3];
                }
                place = part == null ? place + 1 : place + 6 + part[3];
                if (part != null) {
                    parts.add(part);
                }
            }
            taken = steps - left;
            lacked = left == 0 && place < bytes.size() && parts.size() < 16;
            return parts.size();
        }

        private boolean isMark(int place) {
            return place + 2 <= bytes.size() && bytes.get(place) == MARKS[kind][0]
                    && bytes.get(place + 1) == MARKS[kind][1];
        }

        private boolean isHead(int place) {
            return isMark(place) && place + 6 <= bytes.size();
        }

        private int[] rightPart(int place) {
            if (!isHead(place)) {
                return null;
            }
            int number = bytes.get(place + 2);
            int code = bytes.get(place + 3);
            int size = bytes.get(place + 4);
            boolean right = number < 16 && code < 5 && size < 65
                    && Math.floorMod(7 * number + 31 * code + size + 165 - bytes.get(place + 5), 256) == 0;
            return right && place + 6 + size <= bytes.size() ? new int[] {place, number, code, size, 0, -1} : null;
        }

        private int[] guessedPart(int place, int left) {
            int next = place + 6;
            while (next < bytes.size() && !isMark(next)) {
                next++;
            }
            int size = Math.min(Math.min(next - place - 6, 64), left);
            int[] before = parts.get(parts.size() - 1);
            return new int[] {place, before[1] + 1 & 15, before[2], size, 1, -1};
        }

        int part(int k, int what) {
            int[] part = partAt(k);
            return what < 0 || what > 5 ? -1 : part[what];
        }

        private int[] partAt(int k) {
            need(parts != null, new IllegalStateException());
            need(k >= 0 && k < parts.size(), new IndexOutOfBoundsException());
            return parts.get(k);
        }

        int decode(int k) {
            int[] part = partAt(k);
            int[] made = new int[16];
            part[5] = wall(part, made);
            decodings++;
            thrownDecodings += part[5] == 0 ? 0 : 1;
            for (int i = 0; i < 16 && part[5] == 0; i++) {
                int sample = 16 * part[1] + i;
                if (part[4] == 0 || states[sample] != 1) {
                    values[sample] = made[i];
                    states[sample] = 1 + part[4];
                }
            }
            return part[5];
        }

        int decodeAll() {
            need(parts != null, new IllegalStateException());
            int thrown = 0;
            for (int k = 0; k < parts.size(); k++) {
                thrown += decode(k) == 0 ? 0 : 1;
            }
            return thrown;
        }

        private int wall(int[] part, int[] made) {
            int[] data = new int[part[3]];
            for (int i = 0; i < data.length; i++) {
                data[i] = bytes.get(part[0] + 6 + i);
            }
            try {
                makeSamples(part[2], data, made);
                return 0;
            } catch (ArrayIndexOutOfBoundsException thrown) {
                return 1;
            } catch (ArithmeticException thrown) {
                return 2;
            } catch (NullPointerException thrown) {
                return 3;
            } catch (ClassCastException thrown) {
                return 4;
            } catch (NegativeArraySizeException thrown) {
                return 5;
            } catch (IllegalStateException thrown) {
                return 6;
            }
        }

        private static void makeSamples(int code, int[] data, int[] made) {
            int at = 0;
            int count = 0;
            Object[] boxes = new Object[8];
            while (count < 16) {
                if (code == 0) {
                    made[count++] = data[at++];
                } else if (code == 4) {
                    int b = data[at++];
                    int sample = count == 0 ? b : made[count - 1] + (byte) b;
                    need(sample >= 0 && sample <= 255, new IllegalStateException());
                    made[count++] = sample;
                } else {
                    int a = data[at++];
                    int b = data[at++];
                    if (code == 1) {
                        for (int n = 0; n < a; n++) {
                            made[count++] = b;
                        }
                    } else if (code == 2) {
                        made[count++] = 16 * a / b & 255;
                    } else {
                        count = useBox(boxes, a & 7, b, made, count);
                    }
                }
            }
        }

        private static int useBox(Object[] boxes, int op, int arg, int[] made, int count) {
            int box = arg & 7;
            int number = arg >> 3;
            Object held = boxes[box];
            switch (op) {
                case 0: boxes[box] = number; return count;
                case 1: boxes[box] = new int[(number & 7) - 2]; return count;
                case 2: made[count] = (Integer) held; return count + 1;
                case 3: made[count] = ((int[]) held).length; return count + 1;
                case 4: ((int[]) held)[number] = count == 0 ? 0 : made[count - 1]; return count;
                case 5: made[count] = ((int[]) held)[number]; return count + 1;
                case 6: boxes[box] = null; return count;
                default: throw new IllegalStateException();
            }
        }

        int at(int i) {
            need(i >= 0 && i < 256, new IndexOutOfBoundsException());
            return values[i] == null ? -1 : values[i];
        }

        int state(int i) {
            need(i >= 0 && i < 256, new IndexOutOfBoundsException());
            return states[i];
        }

        int fill(int rule) {
            need(rule >= 0 && rule <= 2, new IllegalArgumentException());
            int filled = 0;
            for (int i = 0; i < 256; i++) {
                if (states[i] == 0 || states[i] == 3) {
                    values[i] = rule == 0 ? mean(i) : rule == 1 || i < 16 ? 255 : values[i - 16];
                    states[i] = 3;
                    filled++;
                }
            }
            return filled;
        }

        private int mean(int i) {
            int sum = 0;
            int count = 0;
            if (i % 16 > 0) {
                sum += values[i - 1];
                count++;
            }
            if (i >= 16) {
                sum += values[i - 16];
                count++;
            }
            return count == 0 ? 128 : sum / count;
        }

        int told(int what) {
            int sure = (int) Arrays.stream(states).filter(state -> state == 1).count();
            int[] all = {kind, steps, bytes.size(), parts == null ? 0 : parts.size(), taken, lacked ? 1 : 0,
                decodings, thrownDecodings, sure};
            return what >= 0 && what < all.length ? all[what] : -1;
        }

        void clear() {
            bytes.clear();
            parts = null;
            Arrays.fill(values, null);
            Arrays.fill(states, 0);
            taken = 0;
            lacked = false;
        }

        private static void need(boolean held, RuntimeException otherwise) {
            if (!held) {
                throw otherwise;
            }
        }
    }
}
