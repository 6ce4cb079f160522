/** Promise 4: the search for parts, the guesses, the steps, the ends. */
public final class RunTest {
    private static final int[] DATA = Check.rising(1, 16);

    public static void main(String[] args) {
        Check check = new Check();
        marksByKind(check);
        headsThatAreRight(check);
        headsThatAreNot(check);
        placesBetweenParts(check);
        guesses(check);
        whereGuessedDataEnd(check);
        halfAMarkAtTheVeryEnd(check);
        stepsRunOut(check);
        sixteenParts(check);
        samplesAreUntold(check);
        check.end();
    }

    private static void dueRun(Check check, String name, int parts, int steps, MarkRecovery x) {
        check.due(name + ": run()", parts, x::run);
        check.due(name + ": told(3)", parts, () -> x.told(3));
        check.due(name + ": told(4)", steps, () -> x.told(4));
    }

    private static MarkRecovery fed(int kind, int steps, int[]... pieces) {
        MarkRecovery x = new MarkRecovery(kind, steps);
        Check.feed(x, Check.join(pieces));
        return x;
    }

    private static void marksByKind(Check check) {
        for (int kind = 0; kind < 3; kind++) {
            for (int other = 0; other < 3; other++) {
                MarkRecovery x = fed(kind, 1000, Check.part(other, 5, 0, DATA));
                boolean same = kind == other;
                dueRun(check, "mark " + other + " of kind " + kind, same ? 1 : 0, same ? 1 : 22, x);
            }
        }
        dueRun(check, "no bytes", 0, 0, new MarkRecovery(0, 10));
    }

    private static void headsThatAreRight(Check check) {
        int[][] heads = {{0, 0, 0}, {15, 4, 64}, {15, 0, 0}, {0, 4, 1}, {7, 3, 63}};
        for (int[] head : heads) {
            int[] data = Check.same(1, head[2]);
            MarkRecovery x = fed(1, 1000, Check.part(1, head[0], head[1], data));
            dueRun(check, "right head", 1, 1, x);
            check.duePart(x, 0, 0, head[0], head[1], head[2], 0, -1);
        }
    }

    private static void headsThatAreNot(Check check) {
        int[][] heads = {{16, 0, 3}, {0, 5, 3}, {255, 0, 3}, {0, 255, 3}};
        for (int[] head : heads) {
            MarkRecovery x = fed(1, 1000, Check.head(1, head[0], head[1], head[2]), new int[70]);
            dueRun(check, "wrong head", 0, 76, x);
        }
        dueRun(check, "size 65", 0, 76, fed(1, 1000, Check.head(1, 0, 0, 65), new int[70]));
        dueRun(check, "wrong check", 0, 22, fed(1, 1000, Check.broken(1, DATA)));
        dueRun(check, "a byte too few", 0, 21, fed(1, 1000, Check.head(1, 3, 0, 16), Check.rising(1, 15)));
        int[] head = Check.head(1, 3, 0, 0);
        for (int length = 1; length < 6; length++) {
            int[] piece = java.util.Arrays.copyOf(head, length);
            dueRun(check, "head of " + length, 0, length, fed(1, 1000, piece));
        }
        dueRun(check, "whole head", 1, 1, fed(1, 1000, head));
    }

    private static void placesBetweenParts(Check check) {
        int[] noise = {80, 80, 66, 65, 80};
        MarkRecovery x = fed(1, 1000, noise, Check.part(1, 3, 0, DATA), new int[] {80, 9},
                Check.part(1, 3, 2, 7, 8), new int[] {4});
        dueRun(check, "noise", 2, 5 + 1 + 2 + 1 + 1, x);
        check.duePart(x, 0, 5, 3, 0, 16, 0, -1);
        check.duePart(x, 1, 29, 3, 2, 2, 0, -1);
        int[] inner = Check.part(1, 1, 0);
        MarkRecovery hidden = fed(1, 1000, Check.part(1, 2, 0, inner), inner);
        dueRun(check, "a part in data is none", 2, 2, hidden);
        check.duePart(hidden, 1, 12, 1, 0, 0, 0, -1);
    }

    private static void guesses(Check check) {
        dueRun(check, "no part before", 0, 22, fed(0, 1000, Check.broken(0, DATA)));
        MarkRecovery x = fed(0, 1000, Check.part(0, 14, 3, 1, 2), Check.broken(0, DATA),
                Check.broken(0, 5, 6, 7), Check.part(0, 2, 1, 4), Check.broken(0));
        dueRun(check, "guesses", 5, 1 + 17 + 4 + 1 + 1, x);
        check.duePart(x, 0, 0, 14, 3, 2, 0, -1);
        check.duePart(x, 1, 8, 15, 3, 16, 1, -1);
        check.duePart(x, 2, 30, 0, 3, 3, 1, -1);
        check.duePart(x, 3, 39, 2, 1, 1, 0, -1);
        check.duePart(x, 4, 46, 3, 1, 0, 1, -1);
        MarkRecovery cut = fed(0, 1000, Check.part(0, 4, 2), Check.head(0, 9, 1, 5), new int[4]);
        dueRun(check, "a right head with data cut off", 2, 1 + 5, cut);
        check.duePart(cut, 1, 6, 5, 2, 4, 1, -1);
        MarkRecovery end = fed(0, 1000, Check.part(0, 4, 2), new int[] {255, 217, 0, 0, 0});
        dueRun(check, "a head cut off is not guessed", 1, 1 + 5, end);
    }

    private static void whereGuessedDataEnd(Check check) {
        int[] first = Check.part(0, 4, 2);
        dueGuessed(check, "64 at most", 64, 1 + 1 + 64 + 2, fed(0, 1000, first, Check.broken(0, new int[66])));
        dueGuessed(check, "just 64", 64, 1 + 1 + 64, fed(0, 1000, first, Check.broken(0, new int[64])));
        dueGuessed(check, "63", 63, 1 + 1 + 63, fed(0, 1000, first, Check.broken(0, new int[63])));
        dueGuessed(check, "half a mark", 4, 1 + 1 + 4, fed(0, 1000, first, Check.broken(0, 255, 216, 217, 255)));
        dueGuessed(check, "a mark at the end", 2, 1 + 1 + 2 + 2, fed(0, 1000, first, Check.broken(0, 1, 255, 255, 217)));
        dueGuessed(check, "a mark across the head's end is none", 2, 1 + 1 + 2,
                fed(0, 1000, first, new int[] {255, 217, 0, 0, 0, 255}, new int[] {217, 3}));
        dueGuessed(check, "a mark in the head is none", 1, 1 + 1 + 1,
                fed(0, 1000, first, new int[] {255, 217, 255, 217, 255, 217, 9}));
        dueGuessed(check, "a mark of another kind", 4, 1 + 1 + 4, fed(0, 1000, first, Check.broken(0, 80, 65, 151, 74)));
    }

    /** The second part is a guessed one with so many data. */
    private static void dueGuessed(Check check, String name, int size, int steps, MarkRecovery x) {
        dueRun(check, name, 2, steps, x);
        check.due(name + ": size", size, () -> x.part(1, 3));
        check.due(name + ": guessed", 1, () -> x.part(1, 4));
    }

    private static void stepsRunOut(Check check) {
        int[][] ends = {{1, 1, -1, 1}, {2, 2, 0, 1}, {3, 2, 1, 1}, {11, 2, 9, 1}, {12, 2, 10, 0}, {13, 2, 10, 0}};
        for (int[] end : ends) {
            MarkRecovery x = fed(0, end[0], Check.part(0, 4, 2), Check.broken(0, Check.rising(1, 10)));
            dueRun(check, end[0] + " steps", end[1], Math.min(end[0], 12), x);
            if (end[2] >= 0) {
                check.due(end[0] + " steps: data", end[2], () -> x.part(1, 3));
            }
            check.due(end[0] + " steps: told(5)", end[3], () -> x.told(5));
        }
        MarkRecovery before = fed(0, 3, new int[3], Check.part(0, 1, 0));
        dueRun(check, "steps end before a part", 0, 3, before);
        MarkRecovery with = fed(0, 4, new int[3], Check.part(0, 1, 0));
        dueRun(check, "steps end with a part", 1, 4, with);
        MarkRecovery most = fed(0, 65536, new int[1200]);
        dueRun(check, "steps for all", 0, 1200, most);
    }

    private static void halfAMarkAtTheVeryEnd(Check check) {
        for (int kind = 0; kind < 3; kind++) {
            int half = Check.head(kind, 0, 0, 0)[0];
            dueRun(check, "1,200 bytes", 0, 1200, fed(kind, 65536, new int[1199], new int[] {half}));
            MarkRecovery x = fed(kind, 65536, new int[1185], Check.part(kind, 3, 0), Check.broken(kind, 1, 2, half));
            dueRun(check, "1,200 bytes with a guess", 2, 1185 + 1 + 1 + 3, x);
        }
    }

    private static void sixteenParts(Check check) {
        MarkRecovery x = new MarkRecovery(2, 1000);
        for (int i = 0; i < 17; i++) {
            Check.feed(x, Check.part(2, 15 - i % 16, i % 5, 1, 2));
        }
        dueRun(check, "17 parts", 16, 16, x);
        check.duePart(x, 15, 120, 0, 0, 2, 0, -1);
        MarkRecovery guessed = fed(2, 1000, Check.part(2, 3, 1));
        for (int i = 0; i < 20; i++) {
            Check.feed(guessed, Check.broken(2, i, i));
        }
        dueRun(check, "16 parts with guesses", 16, 1 + 15 * 3, guessed);
        check.duePart(guessed, 15, 6 + 14 * 8, 2, 1, 2, 1, -1);
    }

    private static void samplesAreUntold(Check check) {
        MarkRecovery x = Check.ran(0, 100, Check.part(0, 2, 0, DATA));
        x.decodeAll();
        x.fill(0);
        check.due("the second run()", 1, x::run);
        check.dueSamples(x, 0, 0, Check.same(MarkRecovery.NONE, 256));
        check.due("told(8)", 0, () -> x.told(8));
        check.duePart(x, 0, 0, 2, 0, 16, 0, -1);
    }
}
