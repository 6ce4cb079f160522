/** Promise 7: all parts, in order, each one alone. */
public final class DecodeAllTest {
    public static void main(String[] args) {
        Check check = new Check();
        manyParts(check);
        theOrderCounts(check);
        wrongInputs(check);
        check.end();
    }

    private static void manyParts(Check check) {
        MarkRecovery x = Check.ran(0, 100, Check.join(Check.part(0, 1, 0, 5), Check.part(0, 2, 1, 16, 77),
                Check.part(0, 3, 2, 1, 0), Check.part(0, 4, 3, 7, 0), Check.part(0, 5, 0, Check.rising(9, 16))));
        check.due("decodeAll()", 3, x::decodeAll);
        int[] thrown = {1, 0, 2, 6, 0};
        for (int k = 0; k < thrown.length; k++) {
            int asked = k;
            check.due("part(" + k + ", 5)", thrown[k], () -> x.part(asked, 5));
        }
        check.dueSamples(x, 16, 0, Check.same(-1, 16));
        check.dueSamples(x, 32, 1, Check.same(77, 16));
        check.dueSamples(x, 48, 0, Check.same(-1, 32));
        check.dueSamples(x, 80, 1, Check.rising(9, 16));
        check.dueTold(x, 0, 100, 53, 5, 5, 0, 5, 3, 32);
        check.due("decodeAll() again", 3, x::decodeAll);
        check.dueTold(x, 0, 100, 53, 5, 5, 0, 10, 6, 32);
    }

    private static void theOrderCounts(Check check) {
        MarkRecovery x = Check.ran(0, 100, Check.join(Check.part(0, 1, 1, 16, 5), Check.part(0, 1, 1, 16, 6),
                Check.part(0, 0, 1, 16, 7), Check.broken(0, 16, 8), Check.broken(0, 16, 9)));
        check.due("decodeAll()", 0, x::decodeAll);
        check.dueSamples(x, 0, 1, Check.same(7, 16));
        check.dueSamples(x, 16, 1, Check.same(6, 16));
        check.dueSamples(x, 32, 2, Check.same(9, 16));
    }

    private static void wrongInputs(Check check) {
        MarkRecovery x = new MarkRecovery(0, 100);
        check.dueThrow("decodeAll()", IllegalStateException.class, x::decodeAll);
        check.due("told(6)", 0, () -> x.told(6));
        check.due("run()", 0, x::run);
        check.due("decodeAll() of nothing", 0, x::decodeAll);
        check.due("told(6)", 0, () -> x.told(6));
    }
}
