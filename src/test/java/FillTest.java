/** Promise 10: samples that were not told are filled by a rule. */
public final class FillTest {
    public static void main(String[] args) {
        Check check = new Check();
        nothingTold(check);
        rowsBetween(check);
        theFirstRowTold(check);
        meansRoundDown(check);
        filledBecomesTold(check);
        guessedIsTold(check);
        allTold(check);
        wrongRules(check);
        check.end();
    }

    private static void nothingTold(Check check) {
        int[] values = {128, 255, 255};
        MarkRecovery one = new MarkRecovery(0, 10);
        for (int rule = 0; rule < 3; rule++) {
            int asked = rule;
            MarkRecovery x = new MarkRecovery(0, 10);
            check.due("fill(" + rule + ")", 256, () -> x.fill(asked));
            check.dueSamples(x, 0, 3, Check.same(values[rule], 256));
            check.due("fill(" + rule + ") once more", 256, () -> one.fill(asked));
            check.dueSamples(one, 0, 3, Check.same(values[rule], 256));
        }
        check.due("fill(0) behind the others", 256, () -> one.fill(0));
        check.dueSamples(one, 0, 3, Check.same(128, 256));
        check.due("told(8)", 0, () -> one.told(8));
    }

    private static void rowsBetween(Check check) {
        MarkRecovery x = Check.ran(0, 100, Check.join(Check.part(0, 1, 0, Check.rising(10, 16)),
                Check.part(0, 4, 1, 16, 200)));
        x.decodeAll();
        check.due("fill(2)", 224, () -> x.fill(2));
        check.dueSamples(x, 0, 3, Check.same(255, 16));
        check.dueSamples(x, 16, 1, Check.rising(10, 16));
        check.dueSamples(x, 32, 3, Check.rising(10, 16));
        check.dueSamples(x, 48, 3, Check.rising(10, 16));
        check.dueSamples(x, 64, 1, Check.same(200, 16));
        check.dueSamples(x, 80, 3, Check.same(200, 176));
        check.due("fill(1)", 224, () -> x.fill(1));
        check.dueSamples(x, 0, 3, Check.same(255, 16));
        check.dueSamples(x, 16, 1, Check.rising(10, 16));
        check.dueSamples(x, 32, 3, Check.same(255, 32));
        check.dueSamples(x, 80, 3, Check.same(255, 176));
    }

    private static void theFirstRowTold(Check check) {
        MarkRecovery x = Check.ran(0, 100, Check.part(0, 0, 0, Check.rising(10, 16)));
        x.decodeAll();
        check.due("fill(2)", 240, () -> x.fill(2));
        for (int row = 1; row < 16; row++) {
            check.dueSamples(x, 16 * row, 3, Check.rising(10, 16));
        }
    }

    private static void meansRoundDown(Check check) {
        int[] told = {0, 1, 2, 255, 255, 0, 0, 7, 9, 100, 101, 254, 3, 3, 3, 250};
        MarkRecovery x = Check.ran(0, 100, Check.part(0, 0, 0, told));
        x.decodeAll();
        check.due("fill(0)", 240, () -> x.fill(0));
        check.dueSamples(x, 0, 1, told);
        int[] above = told;
        for (int row = 1; row < 16; row++) {
            int[] filled = new int[16];
            filled[0] = above[0];
            for (int i = 1; i < 16; i++) {
                filled[i] = (filled[i - 1] + above[i]) / 2;
            }
            check.dueSamples(x, 16 * row, 3, filled);
            above = filled;
        }
        check.dueSamples(x, 16, 3, 0, 0, 1, 128, 191, 95, 47, 27, 18, 59, 80, 167, 85, 44, 23, 136);
        check.dueSamples(x, 32, 3, 0, 0, 0, 64, 127, 111, 79, 53, 35, 47, 63, 115, 100, 72, 47, 91);
    }

    private static void filledBecomesTold(Check check) {
        MarkRecovery x = Check.ran(0, 100, Check.part(0, 5, 1, 16, 40));
        check.due("fill(1)", 256, () -> x.fill(1));
        check.due("decode(0)", 0, () -> x.decode(0));
        check.dueSamples(x, 80, 1, Check.same(40, 16));
        check.dueSamples(x, 96, 3, Check.same(255, 16));
        check.due("fill(2)", 240, () -> x.fill(2));
        check.dueSamples(x, 64, 3, Check.same(255, 16));
        check.dueSamples(x, 96, 3, Check.same(40, 160));
    }

    private static void guessedIsTold(Check check) {
        MarkRecovery x = Check.ran(0, 100, Check.join(Check.part(0, 5, 1), Check.broken(0, 16, 30)));
        x.fill(1);
        check.due("decodeAll()", 1, x::decodeAll);
        check.dueSamples(x, 96, 2, Check.same(30, 16));
        check.due("fill(2)", 240, () -> x.fill(2));
        check.dueSamples(x, 96, 2, Check.same(30, 16));
        check.dueSamples(x, 112, 3, Check.same(30, 16));
    }

    private static void allTold(Check check) {
        MarkRecovery x = new MarkRecovery(0, 100);
        for (int row = 0; row < 16; row++) {
            Check.feed(x, Check.part(0, row, 1, 16, row));
        }
        x.run();
        x.decodeAll();
        check.due("fill(0)", 0, () -> x.fill(0));
        check.due("told(8)", 256, () -> x.told(8));
        check.dueSamples(x, 240, 1, Check.same(15, 16));
    }

    private static void wrongRules(Check check) {
        MarkRecovery x = new MarkRecovery(0, 100);
        int[] rules = {-1, 3, Integer.MIN_VALUE, Integer.MAX_VALUE};
        for (int rule : rules) {
            check.dueThrow("fill(" + rule + ")", IllegalArgumentException.class, () -> x.fill(rule));
        }
        check.dueSamples(x, 0, 0, Check.same(-1, 256));
        x.fill(0);
        check.dueThrow("fill(3)", IllegalArgumentException.class, () -> x.fill(3));
        check.dueSamples(x, 0, 3, Check.same(128, 256));
    }
}
