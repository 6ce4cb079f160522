/** Promise 1: KIND and STEPS become the nearest that may be; nothing else is there. */
public final class NewObjectTest {
    public static void main(String[] args) {
        Check check = new Check();
        int[][] kinds = {{0, 0}, {1, 1}, {2, 2}, {-1, 0}, {3, 2},
            {Integer.MIN_VALUE, 0}, {Integer.MAX_VALUE, 2}};
        for (int[] kind : kinds) {
            MarkRecovery x = new MarkRecovery(kind[0], 10);
            check.due("kind " + kind[0], kind[1], () -> x.told(0));
        }
        int[][] steps = {{1, 1}, {2, 2}, {65535, 65535}, {65536, 65536}, {65537, 65536}, {0, 1},
            {-1, 1}, {Integer.MIN_VALUE, 1}, {Integer.MAX_VALUE, 65536}};
        for (int[] step : steps) {
            MarkRecovery x = new MarkRecovery(1, step[0]);
            check.due("steps " + step[0], step[1], () -> x.told(1));
        }
        theNearestKindIsSearched(check);
        nothingIsThere(check);
        check.end();
    }

    private static void theNearestKindIsSearched(Check check) {
        int[][] kinds = {{-5, 0}, {0, 0}, {1, 1}, {2, 2}, {9, 2}};
        for (int[] kind : kinds) {
            MarkRecovery x = new MarkRecovery(kind[0], 100);
            Check.feed(x, Check.part(kind[1], 1, 0, Check.rising(1, 16)));
            check.due("run() of kind " + kind[0], 1, x::run);
        }
        MarkRecovery one = new MarkRecovery(0, -7);
        Check.feed(one, 1, 2, 3);
        check.due("run() by one step", 0, one::run);
        check.due("told(4) by one step", 1, () -> one.told(4));
    }

    private static void nothingIsThere(Check check) {
        MarkRecovery x = new MarkRecovery(2, 77);
        check.dueTold(x, 2, 77, 0, 0, 0, 0, 0, 0, 0);
        check.dueSamples(x, 0, 0, Check.same(MarkRecovery.NONE, 256));
        check.dueThrow("part(0, 0)", IllegalStateException.class, () -> x.part(0, 0));
        check.dueThrow("decode(0)", IllegalStateException.class, () -> x.decode(0));
        check.dueThrow("decodeAll()", IllegalStateException.class, x::decodeAll);
    }
}
