/** Promise 3: a byte becomes another one; the answer is what it was. */
public final class AlterTest {
    public static void main(String[] args) {
        Check check = new Check();
        bytesBecomeOthers(check);
        wrongInputs(check);
        partsAreGoneAndSamplesStay(check);
        aHeadIsMended(check);
        check.end();
    }

    private static void bytesBecomeOthers(Check check) {
        MarkRecovery x = new MarkRecovery(0, 100);
        Check.feed(x, 1, 2, 255);
        check.due("alter(0, 255)", 1, () -> x.alter(0, 255));
        check.due("alter(0, 0)", 255, () -> x.alter(0, 0));
        check.due("alter(0, 5)", 0, () -> x.alter(0, 5));
        check.due("alter(2, 6)", 255, () -> x.alter(2, 6));
        check.due("alter(1, 7)", 2, () -> x.alter(1, 7));
        check.due("told(2)", 3, () -> x.told(2));
    }

    private static void wrongInputs(Check check) {
        MarkRecovery x = Check.ran(0, 100, Check.part(0, 2, 0, Check.rising(40, 16)));
        int[] places = {-1, 22, 1199, 1200, Integer.MIN_VALUE, Integer.MAX_VALUE};
        for (int i : places) {
            check.dueThrow("alter(" + i + ", 1)", IndexOutOfBoundsException.class, () -> x.alter(i, 1));
            check.dueThrow("the first of two", IndexOutOfBoundsException.class, () -> x.alter(i, 256));
        }
        int[] bytes = {-1, 256, Integer.MIN_VALUE, Integer.MAX_VALUE};
        for (int b : bytes) {
            check.dueThrow("alter(0, " + b + ")", IllegalArgumentException.class, () -> x.alter(0, b));
        }
        check.duePart(x, 0, 0, 2, 0, 16, 0, -1);
        check.due("alter(0, 1)", 255, () -> x.alter(0, 1));
    }

    private static void partsAreGoneAndSamplesStay(Check check) {
        MarkRecovery x = Check.ran(0, 100, Check.part(0, 2, 0, Check.rising(40, 16)));
        x.decodeAll();
        x.fill(1);
        check.due("alter to what it is", 40, () -> x.alter(6, 40));
        check.dueThrow("part", IllegalStateException.class, () -> x.part(0, 0));
        check.dueThrow("decode", IllegalStateException.class, () -> x.decode(0));
        check.dueThrow("decodeAll", IllegalStateException.class, x::decodeAll);
        check.dueSamples(x, 32, 1, Check.rising(40, 16));
        check.dueSamples(x, 48, 3, Check.same(255, 16));
        check.dueTold(x, 0, 100, 22, 0, 1, 0, 1, 0, 16);
    }

    private static void aHeadIsMended(Check check) {
        MarkRecovery x = new MarkRecovery(2, 100);
        Check.feed(x, Check.broken(2, Check.rising(3, 18)));
        check.due("run() of a broken one", 0, x::run);
        int right = Check.head(2, 9, 1, 18)[5];
        check.due("alter", right ^ 1, () -> x.alter(5, right));
        check.due("run() of a mended one", 1, x::run);
        check.duePart(x, 0, 0, 9, 1, 18, 0, -1);
    }
}
