/** What the tests share: answers compared with those that are due, and bytes to feed. */
final class Check {
    interface Call {
        long answer();
    }

    private static final int[][] MARKS = {{255, 217}, {80, 65}, {151, 74}};
    private int wrong;
    private int calls;

    void due(String call, long want, Call made) {
        calls++;
        try {
            long got = made.answer();
            if (got != want) {
                tellWrong(call, "answered " + got, "due is " + want);
            }
        } catch (RuntimeException thrown) {
            tellWrong(call, "threw " + thrown, "due is " + want);
        }
    }

    void dueThrow(String call, Class<? extends RuntimeException> want, Call made) {
        calls++;
        try {
            tellWrong(call, "answered " + made.answer(), "due is " + want.getSimpleName());
        } catch (RuntimeException thrown) {
            if (thrown.getClass() != want) {
                tellWrong(call, "threw " + thrown, "due is " + want.getSimpleName());
            }
        }
    }

    void dueSamples(MarkRecovery x, int first, int state, int... values) {
        // Not each one of many: nothing is promised of an object behind its 512th call.
        int step = values.length > 32 ? 7 : 1;
        dueSample(x, first + values.length - 1, state, values[values.length - 1]);
        for (int i = 0; i < values.length; i += step) {
            dueSample(x, first + i, state, values[i]);
        }
    }

    private void dueSample(MarkRecovery x, int sample, int state, int value) {
        due("at(" + sample + ")", value, () -> x.at(sample));
        due("state(" + sample + ")", state, () -> x.state(sample));
    }

    /** A run with so many parts by so many steps. */
    void dueRun(MarkRecovery x, int parts, int steps) {
        due("run()", parts, x::run);
        due("told(3)", parts, () -> x.told(3));
        due("told(4)", steps, () -> x.told(4));
    }

    /** All that part() tells of a part, 0 to 5. */
    void duePart(MarkRecovery x, int k, int... wants) {
        for (int what = 0; what < wants.length; what++) {
            int asked = what;
            due("part(" + k + ", " + what + ")", wants[what], () -> x.part(k, asked));
        }
    }

    /** All that told() tells, 0 to 8. */
    void dueTold(MarkRecovery x, int... wants) {
        for (int what = 0; what < wants.length; what++) {
            int asked = what;
            due("told(" + what + ")", wants[what], () -> x.told(asked));
        }
    }

    private void tellWrong(String call, String got, String want) {
        wrong++;
        System.out.println(call + " " + got + ", " + want);
    }

    int calls() {
        return calls;
    }

    int wrong() {
        return wrong;
    }

    void end() {
        System.out.println(calls + " answers, " + wrong + " not as due");
        if (wrong != 0 || calls == 0) {
            System.exit(1);
        }
    }

    static void feed(MarkRecovery x, int... bytes) {
        for (int from = 0; from < bytes.length; from += 8) {
            int n = Math.min(8, bytes.length - from);
            long packed = 0;
            for (int i = n - 1; i >= 0; i--) {
                packed = packed << 8 | bytes[from + i];
            }
            x.feed(packed, n);
        }
    }

    /** A head that is right, also where it tells of data that are not there. */
    static int[] head(int kind, int number, int code, int size) {
        int check = (7 * number + 31 * code + size + 165) % 256;
        return new int[] {MARKS[kind][0], MARKS[kind][1], number, code, size, check};
    }

    static int[] part(int kind, int number, int code, int... data) {
        return join(head(kind, number, code, data.length), data);
    }

    /** A head whose check is wrong, with bytes behind it. */
    static int[] broken(int kind, int... data) {
        int[] bytes = join(head(kind, 9, 1, data.length), data);
        bytes[5] ^= 1;
        return bytes;
    }

    static int[] join(int[]... pieces) {
        int length = 0;
        for (int[] piece : pieces) {
            length += piece.length;
        }
        int[] all = new int[length];
        int to = 0;
        for (int[] piece : pieces) {
            System.arraycopy(piece, 0, all, to, piece.length);
            to += piece.length;
        }
        return all;
    }

    /** So many bytes, first, first + 1, and so on. */
    static int[] rising(int first, int length) {
        int[] bytes = new int[length];
        for (int i = 0; i < length; i++) {
            bytes[i] = first + i;
        }
        return bytes;
    }

    static int[] same(int value, int length) {
        int[] bytes = new int[length];
        java.util.Arrays.fill(bytes, value);
        return bytes;
    }

    /** 1,200 bytes: zeros, then these. */
    static int[] full(int... last) {
        return join(new int[1200 - last.length], last);
    }

    /** A new object that was fed these bytes, and no more. */
    static MarkRecovery fed(int kind, int steps, int[]... pieces) {
        MarkRecovery x = new MarkRecovery(kind, steps);
        feed(x, join(pieces));
        return x;
    }

    /** A new object that was fed these bytes and was run. */
    static MarkRecovery ran(int kind, int steps, int... bytes) {
        MarkRecovery x = new MarkRecovery(kind, steps);
        feed(x, bytes);
        x.run();
        return x;
    }
}
