/** Promise 2: bytes more, the lowest one first, at most 1,200. */
public final class FeedTest {
    public static void main(String[] args) {
        Check check = new Check();
        theLowestComesFirst(check);
        wrongNumbersOfBytes(check);
        noRoom(check);
        whatThrowsChangesNothing(check);
        partsAreGoneAndSamplesStay(check);
        check.end();
    }

    private static void theLowestComesFirst(Check check) {
        for (int n = 1; n <= 8; n++) {
            int length = n;
            MarkRecovery x = new MarkRecovery(0, 100);
            check.due("feed of " + n, n, () -> x.feed(0xF8E7060504830201L, length));
            int[] bytes = {0x01, 0x02, 0x83, 0x04, 0x05, 0x06, 0xE7, 0xF8};
            for (int i = 0; i < n; i++) {
                int place = i;
                check.due("byte " + i + " of " + n, bytes[i], () -> x.alter(place, 0));
            }
            check.dueThrow("byte behind", IndexOutOfBoundsException.class, () -> x.alter(length, 0));
        }
        MarkRecovery x = new MarkRecovery(0, 100);
        check.due("first feed", 3, () -> x.feed(-1L, 3));
        check.due("second feed", 11, () -> x.feed(Long.MIN_VALUE, 8));
        check.due("the highest byte", 128, () -> x.alter(10, 0));
        check.due("the byte between", 255, () -> x.alter(2, 0));
    }

    private static void wrongNumbersOfBytes(Check check) {
        int[] wrong = {0, -1, 9, Integer.MIN_VALUE, Integer.MAX_VALUE};
        MarkRecovery x = new MarkRecovery(0, 100);
        for (int n : wrong) {
            check.dueThrow("feed(5, " + n + ")", IllegalArgumentException.class, () -> x.feed(5, n));
        }
        check.due("told(2)", 0, () -> x.told(2));
    }

    private static MarkRecovery almostFull() {
        MarkRecovery x = new MarkRecovery(0, 65536);
        for (int i = 0; i < 149; i++) {
            x.feed(0, 8);
        }
        return x;
    }

    private static void noRoom(Check check) {
        MarkRecovery whole = almostFull();
        check.due("feed to the end", 1200, () -> whole.feed(1, 8));
        check.dueThrow("feed behind the end", UnsupportedOperationException.class, () -> whole.feed(1, 1));
        check.dueThrow("the first of two", IllegalArgumentException.class, () -> whole.feed(1, 9));
        check.dueThrow("the first of two", IllegalArgumentException.class, () -> whole.feed(1, 0));
        check.due("alter of the last", 0, () -> whole.alter(1199, 7));
        check.due("run() of 1,200 bytes", 0, whole::run);
        check.due("steps", 1200, () -> whole.told(4));

        MarkRecovery x = almostFull();
        check.due("feed of one", 1193, () -> x.feed(1, 1));
        check.dueThrow("one too many", UnsupportedOperationException.class, () -> x.feed(1, 8));
        check.due("told(2)", 1193, () -> x.told(2));
        check.due("just so many", 1200, () -> x.feed(1, 7));
    }

    private static void whatThrowsChangesNothing(Check check) {
        int[] part = Check.part(0, 3, 0, Check.rising(40, 16));
        MarkRecovery x = Check.ran(0, 65536, Check.join(part, new int[1178]));
        check.due("told(2)", 1200, () -> x.told(2));
        check.dueThrow("no room", UnsupportedOperationException.class, () -> x.feed(1, 1));
        check.dueThrow("nine", IllegalArgumentException.class, () -> x.feed(1, 9));
        check.duePart(x, 0, 0, 3, 0, 16, 0, -1);
        check.due("decode(0)", 0, () -> x.decode(0));
        check.due("told(3)", 1, () -> x.told(3));
    }

    private static void partsAreGoneAndSamplesStay(Check check) {
        MarkRecovery x = Check.ran(1, 100, Check.part(1, 2, 0, Check.rising(40, 16)));
        x.decodeAll();
        check.due("feed", 23, () -> x.feed(9, 1));
        check.dueThrow("part", IllegalStateException.class, () -> x.part(0, 0));
        check.dueThrow("part", IllegalStateException.class, () -> x.part(99, 99));
        check.dueThrow("decode", IllegalStateException.class, () -> x.decode(0));
        check.dueThrow("decodeAll", IllegalStateException.class, x::decodeAll);
        check.dueSamples(x, 32, 1, Check.rising(40, 16));
        check.dueTold(x, 1, 100, 23, 0, 1, 0, 1, 0, 16);
    }
}
