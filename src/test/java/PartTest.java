/** Promise 5: what is told of a part. */
public final class PartTest {
    public static void main(String[] args) {
        Check check = new Check();
        whatIsTold(check);
        wrongInputs(check);
        whatWasThrownLatest(check);
        check.end();
    }

    private static MarkRecovery twoParts() {
        return Check.ran(1, 1000, Check.join(new int[] {1, 2, 3},
                Check.part(1, 12, 1, 16, 200), Check.broken(1, 16, 100, 50)));
    }

    private static void whatIsTold(Check check) {
        MarkRecovery x = twoParts();
        check.duePart(x, 0, 3, 12, 1, 2, 0, -1);
        check.duePart(x, 1, 11, 13, 1, 3, 1, -1);
        int[] others = {6, 7, -1, Integer.MIN_VALUE, Integer.MAX_VALUE};
        for (int what : others) {
            check.due("part(0, " + what + ")", -1, () -> x.part(0, what));
        }
        x.decode(1);
        check.duePart(x, 0, 3, 12, 1, 2, 0, -1);
        check.duePart(x, 1, 11, 13, 1, 3, 1, 0);
    }

    private static void wrongInputs(Check check) {
        MarkRecovery x = twoParts();
        int[] none = {-1, 2, 15, 16, Integer.MIN_VALUE, Integer.MAX_VALUE};
        for (int k : none) {
            check.dueThrow("part(" + k + ", 0)", IndexOutOfBoundsException.class, () -> x.part(k, 0));
            check.dueThrow("part(" + k + ", 9)", IndexOutOfBoundsException.class, () -> x.part(k, 9));
        }
        MarkRecovery empty = new MarkRecovery(0, 10);
        check.dueThrow("the first of two", IllegalStateException.class, () -> empty.part(-1, 0));
        check.due("run()", 0, empty::run);
        check.dueThrow("no parts", IndexOutOfBoundsException.class, () -> empty.part(0, 0));
    }

    private static void whatWasThrownLatest(Check check) {
        MarkRecovery x = Check.ran(0, 1000, Check.join(Check.part(0, 1, 0, 5), Check.part(0, 2, 2, 1, 0)));
        x.decodeAll();
        check.due("part(0, 5)", 1, () -> x.part(0, 5));
        check.due("part(1, 5)", 2, () -> x.part(1, 5));
        x.run();
        check.due("part(0, 5) of another run", -1, () -> x.part(0, 5));
        check.due("part(1, 5) of another run", -1, () -> x.part(1, 5));
    }
}
