/** Promises 8 and 9: a sample's value and what it is. */
public final class SamplesTest {
    public static void main(String[] args) {
        Check check = new Check();
        theFourStates(check);
        wrongInputs(check);
        check.end();
    }

    private static void theFourStates(Check check) {
        MarkRecovery x = Check.ran(1, 100, Check.join(Check.part(1, 14, 1, 16, 0), Check.broken(1, 16, 255)));
        check.dueSamples(x, 0, 0, Check.same(-1, 256));
        x.decodeAll();
        check.dueSamples(x, 0, 0, Check.same(-1, 224));
        check.dueSamples(x, 224, 1, Check.same(0, 16));
        check.dueSamples(x, 240, 2, Check.same(255, 16));
        x.fill(0);
        check.dueSamples(x, 0, 3, Check.same(128, 224));
        check.dueSamples(x, 224, 1, Check.same(0, 16));
        check.dueSamples(x, 240, 2, Check.same(255, 16));
        x.run();
        check.dueSamples(x, 0, 0, Check.same(-1, 256));
    }

    private static void wrongInputs(Check check) {
        int[] none = {-1, 256, 1200, Integer.MIN_VALUE, Integer.MAX_VALUE};
        MarkRecovery x = new MarkRecovery(1, 100);
        for (int run = 0; run < 2; run++) {
            for (int i : none) {
                check.dueThrow("at(" + i + ")", IndexOutOfBoundsException.class, () -> x.at(i));
                check.dueThrow("state(" + i + ")", IndexOutOfBoundsException.class, () -> x.state(i));
            }
            x.run();
        }
    }
}
