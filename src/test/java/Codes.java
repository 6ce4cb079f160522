import java.util.Arrays;

/** What comes of data that are decoded by a code. */
final class Codes {
    private Codes() {
    }

    /** The data give these samples, in the first row and in the last one. */
    static void dueMade(Check check, int code, int[] data, int... samples) {
        for (int row = 0; row < 16; row += 15) {
            MarkRecovery x = Check.ran(0, 100, Check.part(0, row, code, data));
            check.due(name(code, data), 0, () -> x.decode(0));
            check.due("part(0, 5)", 0, () -> x.part(0, 5));
            check.dueSamples(x, 16 * row, 1, samples);
            check.dueTold(x, 0, 100, data.length + 6, 1, 1, 0, 1, 0, 16);
        }
    }

    /** Something is thrown by the data, and no sample is told. */
    static void dueThrown(Check check, int code, int thrown, int... data) {
        MarkRecovery x = Check.ran(0, 100, Check.part(0, 3, code, data));
        check.due(name(code, data), thrown, () -> x.decode(0));
        check.due("part(0, 5)", thrown, () -> x.part(0, 5));
        check.dueSamples(x, 48, 0, Check.same(MarkRecovery.NONE, 16));
        check.dueTold(x, 0, 100, data.length + 6, 1, 1, 0, 1, 1, 0);
    }

    private static String name(int code, int[] data) {
        return "decode of code " + code + ", " + Arrays.toString(data);
    }

    /** The arg of code 3 by which this box is meant, with this number. */
    static int arg(int box, int number) {
        return 8 * number + box;
    }
}
