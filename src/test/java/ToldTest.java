/** Promise 11: what is told of the whole. */
public final class ToldTest {
    public static void main(String[] args) {
        Check check = new Check();
        others(check);
        countsGoOn(check);
        lackOfSteps(check);
        check.end();
    }

    private static void others(Check check) {
        MarkRecovery x = new MarkRecovery(1, 10);
        int[] whats = {-1, 9, 10, Integer.MIN_VALUE, Integer.MAX_VALUE};
        for (int what : whats) {
            check.due("told(" + what + ")", -1, () -> x.told(what));
        }
    }

    private static void countsGoOn(Check check) {
        MarkRecovery x = new MarkRecovery(1, 40);
        check.dueTold(x, 1, 40, 0, 0, 0, 0, 0, 0, 0);
        Check.feed(x, Check.join(Check.part(1, 3, 1, 16, 5), Check.part(1, 4, 1, 17, 5)));
        check.dueTold(x, 1, 40, 16, 0, 0, 0, 0, 0, 0);
        x.run();
        check.dueTold(x, 1, 40, 16, 2, 2, 0, 0, 0, 0);
        x.decode(0);
        check.dueTold(x, 1, 40, 16, 2, 2, 0, 1, 0, 16);
        x.decode(1);
        check.dueTold(x, 1, 40, 16, 2, 2, 0, 2, 1, 16);
        x.alter(0, 0);
        check.dueTold(x, 1, 40, 16, 0, 2, 0, 2, 1, 16);
        x.run();
        check.dueTold(x, 1, 40, 16, 1, 9, 0, 2, 1, 0);
        x.feed(0, 8);
        check.dueTold(x, 1, 40, 24, 0, 9, 0, 2, 1, 0);
        x.run();
        x.decodeAll();
        check.dueTold(x, 1, 40, 24, 1, 17, 0, 3, 2, 0);
        x.clear();
        check.dueTold(x, 1, 40, 0, 0, 0, 0, 3, 2, 0);
        x.run();
        check.dueTold(x, 1, 40, 0, 0, 0, 0, 3, 2, 0);
    }

    private static void lackOfSteps(Check check) {
        int[] bytes = Check.rising(0, 5);
        check.dueTold(Check.ran(0, 4, bytes), 0, 4, 5, 0, 4, 1, 0, 0, 0);
        check.dueTold(Check.ran(0, 5, bytes), 0, 5, 5, 0, 5, 0, 0, 0, 0);
        check.dueTold(Check.ran(0, 6, bytes), 0, 6, 5, 0, 5, 0, 0, 0, 0);
        MarkRecovery x = Check.ran(0, 4, bytes);
        x.feed(0, 1);
        check.dueTold(x, 0, 4, 6, 0, 4, 1, 0, 0, 0);
        x.alter(0, 0);
        check.dueTold(x, 0, 4, 6, 0, 4, 1, 0, 0, 0);
        x.clear();
        check.dueTold(x, 0, 4, 0, 0, 0, 0, 0, 0, 0);
        Check.feed(x, bytes);
        x.run();
        check.due("told(5) of a run that lacked", 1, () -> x.told(5));
        x.clear();
        Check.feed(x, 1, 2, 3);
        x.run();
        check.due("told(5) of a run that did not", 0, () -> x.told(5));
        sixteenParts(check);
    }

    private static void sixteenParts(Check check) {
        MarkRecovery right = new MarkRecovery(0, 16);
        MarkRecovery guessed = new MarkRecovery(0, 18);
        for (int i = 0; i < 16; i++) {
            Check.feed(right, Check.part(0, i, 0));
            Check.feed(guessed, i < 15 ? Check.part(0, i, 0) : Check.broken(0, 1, 2, 3));
        }
        Check.feed(right, 1, 2, 3);
        right.run();
        guessed.run();
        check.dueTold(right, 0, 16, 99, 16, 16, 0, 0, 0, 0);
        check.dueTold(guessed, 0, 18, 99, 16, 18, 0, 0, 0, 0);
        check.due("guessed data as long as there are steps", 2, () -> guessed.part(15, 3));
        MarkRecovery lacking = new MarkRecovery(0, 15);
        for (int i = 0; i < 16; i++) {
            Check.feed(lacking, Check.part(0, i, 0));
        }
        lacking.run();
        check.dueTold(lacking, 0, 15, 96, 15, 15, 1, 0, 0, 0);
    }
}
