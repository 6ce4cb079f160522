/** Promise 6: a part is decoded by its code, alone. */
public final class DecodeTest {
    private static final int[] RISING = Check.rising(60, 16);

    public static void main(String[] args) {
        Check check = new Check();
        codeZero(check);
        codeOne(check);
        codeTwo(check);
        codeThreeTells(check);
        codeThreeThrows(check);
        codeFour(check);
        whatIsThrownLeavesSamples(check);
        guessedOnesSpareSureSamples(check);
        wrongInputs(check);
        check.end();
    }

    private static void dueMade(Check check, int code, int[] data, int... samples) {
        Codes.dueMade(check, code, data, samples);
    }

    private static void dueThrown(Check check, int code, int thrown, int... data) {
        Codes.dueThrown(check, code, thrown, data);
    }

    private static void codeZero(Check check) {
        dueMade(check, 0, RISING, RISING);
        dueMade(check, 0, Check.rising(60, 17), RISING);
        dueMade(check, 0, Check.same(255, 64), Check.same(255, 16));
        dueThrown(check, 0, 1);
        dueThrown(check, 0, 1, Check.rising(60, 15));
    }

    private static void codeOne(Check check) {
        dueMade(check, 1, new int[] {16, 200}, Check.same(200, 16));
        dueMade(check, 1, new int[] {0, 9, 1, 3, 0, 9, 15, 4, 0}, Check.join(new int[] {3}, Check.same(4, 15)));
        dueMade(check, 1, new int[] {10, 255, 6, 0, 255, 255}, Check.join(Check.same(255, 10), new int[6]));
        dueThrown(check, 1, 1);
        dueThrown(check, 1, 1, 16);
        dueThrown(check, 1, 1, 17, 5);
        dueThrown(check, 1, 1, 255, 5);
        dueThrown(check, 1, 1, 15, 5, 2, 6);
        dueThrown(check, 1, 1, 15, 5);
        dueThrown(check, 1, 1, 15, 5, 1);
        dueThrown(check, 1, 1, Check.same(0, 64));
    }

    private static void codeTwo(Check check) {
        int[] data = {0, 1, 1, 16, 1, 17, 2, 3, 255, 255, 15, 1, 16, 1, 255, 1,
            17, 1, 100, 7, 1, 255, 16, 255, 31, 2, 33, 2, 8, 128, 9, 9};
        dueMade(check, 2, data, 0, 1, 0, 10, 16, 240, 0, 240, 16, 228, 0, 1, 248, 8, 1, 16);
        dueMade(check, 2, Check.join(data, new int[] {1, 0}), 0, 1, 0, 10, 16, 240, 0, 240);
        dueThrown(check, 2, 1);
        dueThrown(check, 2, 1, 5);
        dueThrown(check, 2, 2, 5, 0);
        dueThrown(check, 2, 2, 0, 0);
        dueThrown(check, 2, 1, Check.same(7, 31));
        dueThrown(check, 2, 2, Check.join(Check.same(7, 30), new int[] {7, 0}));
        dueThrown(check, 2, 1, Check.join(Check.same(7, 30), new int[] {0}));
    }

    private static int arg(int box, int number) {
        return Codes.arg(box, number);
    }

    private static void codeThreeTells(Check check) {
        int[] numbers = {0, arg(7, 31), 2, arg(7, 3), 8, arg(0, 5), 10, arg(0, 9), 250, arg(7, 0)};
        int[] rest = new int[26];
        for (int i = 0; i < 26; i += 2) {
            rest[i] = 2;
            rest[i + 1] = arg(0, 0);
        }
        dueMade(check, 3, Check.join(numbers, rest), Check.join(new int[] {31, 5, 31}, Check.same(5, 13)));
        int[] rows = {1, arg(1, 7), 3, arg(1, 0), 5, arg(1, 4), 4, arg(1, 4), 0, arg(2, 19), 2, arg(2, 0),
            4, arg(1, 0), 5, arg(1, 4), 5, arg(1, 0), 5, arg(1, 1), 3, arg(1, 9), 1, arg(3, 26), 3, arg(3, 0),
            1, arg(4, 13), 3, arg(4, 0), 1, arg(1, 5), 5, arg(1, 0)};
        int[] end = {3, 1, 3, 1, 3, 1, 3, 1, 3, 1, 3, 1, 7, 7};
        dueMade(check, 3, Check.join(rows, end), 5, 0, 19, 0, 19, 0, 5, 0, 3, 0, 3, 3, 3, 3, 3, 3);
        beforeTheFirstStandsZero(check);
        int[] kinds = {1, arg(6, 3), 0, arg(6, 4), 2, arg(6, 0), 1, arg(6, 3), 4, arg(6, 0), 5, arg(6, 0)};
        int[] tail = Check.same(3, 28);
        for (int i = 1; i < 28; i += 2) {
            tail[i] = arg(6, 0);
        }
        dueMade(check, 3, Check.join(kinds, tail), Check.join(new int[] {4, 4}, Check.same(1, 14)));
    }

    private static void beforeTheFirstStandsZero(Check check) {
        int[] data = Check.same(5, 36);
        System.arraycopy(new int[] {1, arg(0, 3), 4, arg(0, 0)}, 0, data, 0, 4);
        for (int i = 5; i < 36; i += 2) {
            data[i] = arg(0, 0);
        }
        dueMade(check, 3, data, new int[16]);
    }

    private static void codeThreeThrows(Check check) {
        dueThrown(check, 3, 1);
        dueThrown(check, 3, 1, 7);
        dueThrown(check, 3, 1, 0, 0);
        dueThrown(check, 3, 1, 0, 0, 2);
        dueThrown(check, 3, 6, 7, 0);
        dueThrown(check, 3, 6, 255, 0);
        dueThrown(check, 3, 5, 1, arg(0, 0));
        dueThrown(check, 3, 5, 1, arg(0, 1));
        dueThrown(check, 3, 5, 1, arg(0, 9));
        dueThrown(check, 3, 1, 1, arg(0, 2));
        for (int op = 2; op < 6; op++) {
            dueThrown(check, 3, 3, op, arg(0, 0));
            dueThrown(check, 3, 3, 0, arg(1, 3), op, arg(0, 0));
            dueThrown(check, 3, 3, 0, arg(0, 3), 6, arg(0, 7), op, arg(0, 0));
            dueThrown(check, 3, 3, 1, arg(0, 3), 6, arg(0, 7), op, arg(0, 0));
        }
        dueThrown(check, 3, 4, 1, arg(5, 4), 2, arg(5, 0));
        dueThrown(check, 3, 4, 0, arg(5, 4), 3, arg(5, 0));
        for (int op = 4; op < 6; op++) {
            dueThrown(check, 3, 4, 0, arg(5, 4), op, arg(5, 0));
            dueThrown(check, 3, 4, 0, arg(5, 4), op, arg(5, 31));
            dueThrown(check, 3, 1, 1, arg(5, 2), op, arg(5, 0));
            dueThrown(check, 3, 6, 1, arg(5, 3), op, arg(5, 0), 7, 7);
            dueThrown(check, 3, 1, 1, arg(5, 3), op, arg(5, 1), 7, 7);
            dueThrown(check, 3, 6, 1, arg(5, 7), op, arg(5, 4), 7, 7);
            dueThrown(check, 3, 1, 1, arg(5, 7), op, arg(5, 5), 7, 7);
            dueThrown(check, 3, 1, 1, arg(5, 7), op, arg(5, 31), 7, 7);
        }
        boxesAreEmptyAtFirst(check);
    }

    private static void boxesAreEmptyAtFirst(Check check) {
        MarkRecovery x = Check.ran(0, 100, Check.join(Check.part(0, 1, 3, 0, 0), Check.part(0, 2, 3, 2, 0)));
        check.due("decode(0)", 1, () -> x.decode(0));
        check.due("decode(1)", 3, () -> x.decode(1));
    }

    private static void codeFour(Check check) {
        int[] data = {200, 55, 129, 0, 127, 128, 129, 1, 255, 5, 251, 10, 246, 127, 1, 127, 200};
        dueMade(check, 4, data, 200, 255, 128, 128, 255, 127, 0, 1, 0, 5, 0, 10, 0, 127, 128, 255);
        dueThrown(check, 4, 1);
        dueThrown(check, 4, 1, Check.same(0, 15));
        dueThrown(check, 4, 6, 0, 255);
        dueThrown(check, 4, 6, 127, 128);
        dueThrown(check, 4, 6, 255, 1);
        dueThrown(check, 4, 6, 129, 127);
        dueThrown(check, 4, 1, 128, 127);
        dueThrown(check, 4, 6, Check.join(Check.same(0, 15), new int[] {255}));
    }

    private static void whatIsThrownLeavesSamples(Check check) {
        MarkRecovery x = Check.ran(0, 100, Check.join(Check.part(0, 3, 0, RISING),
                Check.part(0, 3, 1, 15, 9, 2, 9), Check.part(0, 4, 4, 1, 1, 254, 254)));
        check.due("decode(0)", 0, () -> x.decode(0));
        check.due("decode(1)", 1, () -> x.decode(1));
        check.dueSamples(x, 48, 1, RISING);
        check.due("fill(1)", 240, () -> x.fill(1));
        check.due("decode(2)", 6, () -> x.decode(2));
        check.dueSamples(x, 64, 3, Check.same(255, 16));
    }

    private static void guessedOnesSpareSureSamples(Check check) {
        int[] others = Check.rising(90, 16);
        int[] third = Check.rising(120, 16);
        MarkRecovery x = Check.ran(0, 100, Check.join(Check.part(0, 3, 0, RISING),
                Check.broken(0, others), Check.part(0, 4, 0, third)));
        check.due("decode(1), guessed", 0, () -> x.decode(1));
        check.dueSamples(x, 64, 2, others);
        check.due("decode(2), sure", 0, () -> x.decode(2));
        check.dueSamples(x, 64, 1, third);
        check.due("decode(1), guessed", 0, () -> x.decode(1));
        check.dueSamples(x, 64, 1, third);
        check.due("told(8)", 16, () -> x.told(8));
        check.due("told(6)", 3, () -> x.told(6));
        MarkRecovery twice = Check.ran(0, 100, Check.join(Check.part(0, 3, 0, RISING), Check.part(0, 3, 0, others)));
        check.due("the later one", 0, () -> twice.decodeAll());
        check.dueSamples(twice, 48, 1, others);
        check.due("the first one again", 0, () -> twice.decode(0));
        check.dueSamples(twice, 48, 1, RISING);
    }

    private static void wrongInputs(Check check) {
        MarkRecovery x = new MarkRecovery(0, 100);
        check.dueThrow("decode(0)", IllegalStateException.class, () -> x.decode(0));
        check.dueThrow("the first of two", IllegalStateException.class, () -> x.decode(-1));
        Check.feed(x, Check.part(0, 3, 0, RISING));
        check.due("run()", 1, x::run);
        int[] none = {-1, 1, 15, 16, Integer.MIN_VALUE, Integer.MAX_VALUE};
        for (int k : none) {
            check.dueThrow("decode(" + k + ")", IndexOutOfBoundsException.class, () -> x.decode(k));
        }
        check.dueTold(x, 0, 100, 22, 1, 1, 0, 0, 0, 0);
    }
}
