/** Promise 12: no bytes, no parts, no samples. */
public final class ClearTest {
    public static void main(String[] args) {
        Check check = new Check();
        MarkRecovery x = Check.ran(2, 500, Check.join(Check.part(2, 3, 1, 16, 5), Check.broken(2, 17, 5)));
        x.decodeAll();
        x.fill(0);
        x.clear();
        check.dueSamples(x, 0, 0, Check.same(-1, 256));
        check.dueThrow("part(0, 0)", IllegalStateException.class, () -> x.part(0, 0));
        check.dueThrow("decode(0)", IllegalStateException.class, () -> x.decode(0));
        check.dueThrow("decodeAll()", IllegalStateException.class, x::decodeAll);
        check.dueThrow("alter(0, 0)", IndexOutOfBoundsException.class, () -> x.alter(0, 0));
        check.dueTold(x, 2, 500, 0, 0, 0, 0, 2, 1, 0);
        check.due("run() of nothing", 0, x::run);
        check.due("feed", 2, () -> x.feed(0x4A97, 2));
        check.due("run() sees no old bytes", 0, x::run);
        check.due("steps of two bytes", 2, () -> x.told(4));
        roomIsThereAgain(check);
        oldBytesMakeNoMark(check);
        nothingBefore(check);
        check.end();
    }

    private static void roomIsThereAgain(Check check) {
        MarkRecovery x = new MarkRecovery(0, 500);
        for (int i = 0; i < 150; i++) {
            x.feed(-1, 8);
        }
        x.clear();
        check.due("feed", 8, () -> x.feed(1, 8));
    }

    private static void oldBytesMakeNoMark(Check check) {
        MarkRecovery x = new MarkRecovery(0, 500);
        Check.feed(x, Check.same(217, 16));
        x.clear();
        Check.feed(x, Check.join(Check.part(0, 3, 1), Check.broken(0, 1, 2, 255)));
        check.due("run()", 2, x::run);
        check.due("half a mark is data", 3, () -> x.part(1, 3));
    }

    private static void nothingBefore(Check check) {
        MarkRecovery x = Check.ran(0, 500, Check.part(0, 3, 1, 16, 5));
        x.clear();
        Check.feed(x, Check.broken(0, 16, 5));
        check.due("no part is before a guess", 0, x::run);
        MarkRecovery empty = new MarkRecovery(0, 1);
        empty.clear();
        check.dueTold(empty, 0, 1, 0, 0, 0, 0, 0, 0, 0);
    }
}
