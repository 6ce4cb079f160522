import java.util.Arrays;

/** Terms: BYTES, MARK, HEAD, RIGHT, PART and DATA. */
final class HeadEdges {
    private static final int[][] MARKS = {{255, 217}, {80, 65}, {151, 74}};

    private HeadEdges() {
    }

    static void all(Edges edges) {
        edges.sentence("BYTES, 0 .. 255, at most 1,200, are fed.")
                .edge("empty: there are none at first", HeadEdges::noBytes)
                .edge("the smallest and the largest byte", HeadEdges::smallestAndLargestByte)
                .edge("full: just 1,200", HeadEdges::justFull)
                .edge("too many: the 1,201st is refused", HeadEdges::oneTooMany)
                .edge("too many: eight where there is room for seven", HeadEdges::eightForSeven);
        edges.sentence("A MARK is two bytes by the KIND 0 .. 2: 255 and 217; 80 and 65; 151 and 74.")
                .edge("the two bytes of each kind", HeadEdges::marksOfEachKind)
                .edge("those of another kind are none", HeadEdges::marksOfAnotherKind)
                .edge("a byte too small or too large", HeadEdges::marksOneOff)
                .edge("the other way round", HeadEdges::marksTurnedRound)
                .edge("half a mark behind which there is nothing", HeadEdges::halfAMark);
        edges.sentence("A HEAD is a MARK and four bytes: the NUMBER of a part, its CODE, its SIZE, and a CHECK.")
                .edge("the order of the four", HeadEdges::orderOfTheFour)
                .edge("one to three of the four are too few", HeadEdges::headsCutOff)
                .edge("a head of the last six bytes that there can be", HeadEdges::headAtTheVeryEnd);
        rightEdges(edges);
        edges.sentence("if so, and so many bytes as its SIZE stand behind it, it is a PART with these as its DATA.")
                .edge("just so many", HeadEdges::justSoManyData)
                .edge("one too few", HeadEdges::oneDataTooFew)
                .edge("empty: SIZE 0 needs none", HeadEdges::noDataNeeded)
                .edge("more stand there: those are not its DATA", HeadEdges::moreThanItsData)
                .edge("64 DATA that are the last of 1,200 bytes", HeadEdges::dataAtTheVeryEnd);
    }

    private static void rightEdges(Edges edges) {
        edges.sentence("It is RIGHT if NUMBER is at most 15,")
                .edge("0 and 15", check -> dueRight(check, new int[][] {{0, 1, 2}, {15, 1, 2}}))
                .edge("too large: 16 and 255", check -> dueWrong(check, new int[][] {{16, 1, 2}, {255, 1, 2}}));
        edges.sentence("CODE at most 4,")
                .edge("0 and 4", check -> dueRight(check, new int[][] {{3, 0, 2}, {3, 4, 2}}))
                .edge("too large: 5 and 255", check -> dueWrong(check, new int[][] {{3, 5, 2}, {3, 255, 2}}));
        edges.sentence("SIZE at most 64,")
                .edge("0 and 64", check -> dueRight(check, new int[][] {{3, 1, 0}, {3, 1, 64}}))
                .edge("too large: 65 and 255", check -> dueWrong(check, new int[][] {{3, 1, 65}, {3, 1, 255}}));
        edges.sentence("and the CHECK is what 7 NUMBER + 31 CODE + SIZE + 165 leaves modulo 256;")
                .edge("the smallest and the largest sum", HeadEdges::smallestAndLargestSum)
                .edge("wrap-around: sums of 255, 256 and 257", HeadEdges::sumsAroundTheWrap)
                .edge("each other check is wrong", HeadEdges::eachOtherCheck);
    }

    private static void noBytes(Check check) {
        MarkRecovery x = new MarkRecovery(0, 9);
        check.due("told(2)", 0, () -> x.told(2));
        check.dueThrow("alter(0, 0)", IndexOutOfBoundsException.class, () -> x.alter(0, 0));
        check.dueRun(x, 0, 0);
    }

    private static void smallestAndLargestByte(Check check) {
        MarkRecovery x = new MarkRecovery(0, 9);
        x.feed(0x00FF00FF_FF00FF00L, 8);
        int[] bytes = {0, 255, 0, 255, 255, 0, 255, 0};
        for (int i = 0; i < 8; i++) {
            int place = i;
            check.due("byte " + i, bytes[i], () -> x.alter(place, 1));
        }
    }

    private static void justFull(Check check) {
        MarkRecovery x = Check.fed(0, 9, Check.full(6, 7));
        check.due("told(2)", 1200, () -> x.told(2));
        check.due("the last but one", 6, () -> x.alter(1198, 0));
        check.due("the last", 7, () -> x.alter(1199, 0));
    }

    private static void oneTooMany(Check check) {
        MarkRecovery x = Check.fed(0, 9, new int[1199]);
        check.due("the 1,200th", 1200, () -> x.feed(5, 1));
        check.dueThrow("the 1,201st", UnsupportedOperationException.class, () -> x.feed(5, 1));
        check.due("told(2)", 1200, () -> x.told(2));
    }

    private static void eightForSeven(Check check) {
        MarkRecovery x = Check.fed(0, 9, new int[1193]);
        check.dueThrow("eight", UnsupportedOperationException.class, () -> x.feed(-1, 8));
        check.due("told(2)", 1193, () -> x.told(2));
        check.due("seven", 1200, () -> x.feed(5, 7));
        check.due("the first of the seven", 5, () -> x.alter(1193, 0));
    }

    private static void marksOfEachKind(Check check) {
        for (int kind = 0; kind < 3; kind++) {
            check.dueRun(Check.fed(kind, 99, headBehind(MARKS[kind][0], MARKS[kind][1])), 1, 1);
        }
    }

    private static void marksOfAnotherKind(Check check) {
        for (int kind = 0; kind < 3; kind++) {
            for (int other = 1; other < 3; other++) {
                int[] mark = MARKS[(kind + other) % 3];
                check.dueRun(Check.fed(kind, 99, headBehind(mark[0], mark[1])), 0, 6);
                check.dueRun(Check.fed(kind, 99, headBehind(MARKS[kind][0], mark[1])), 0, 6);
                check.dueRun(Check.fed(kind, 99, headBehind(mark[0], MARKS[kind][1])), 0, 6);
            }
        }
    }

    private static void marksOneOff(Check check) {
        for (int kind = 0; kind < 3; kind++) {
            for (int off = -1; off < 2; off += 2) {
                int first = MARKS[kind][0] + off;
                int second = MARKS[kind][1] + off;
                check.dueRun(Check.fed(kind, 99, headBehind(first % 256, MARKS[kind][1])), 0, 6);
                check.dueRun(Check.fed(kind, 99, headBehind(MARKS[kind][0], second)), 0, 6);
            }
        }
    }

    private static void marksTurnedRound(Check check) {
        for (int kind = 0; kind < 3; kind++) {
            check.dueRun(Check.fed(kind, 99, headBehind(MARKS[kind][1], MARKS[kind][0])), 0, 6);
        }
    }

    private static void halfAMark(Check check) {
        for (int kind = 0; kind < 3; kind++) {
            check.dueRun(Check.fed(kind, 65536, Check.full(MARKS[kind][0])), 0, 1200);
            check.dueRun(Check.fed(kind, 9, new int[] {MARKS[kind][0]}), 0, 1);
        }
    }

    /** The four bytes of a head that is right, behind these two. */
    private static int[] headBehind(int first, int second) {
        int[] bytes = Check.head(0, 3, 1, 0);
        bytes[0] = first;
        bytes[1] = second;
        return bytes;
    }

    private static void orderOfTheFour(Check check) {
        MarkRecovery x = Check.fed(0, 9, new int[] {255, 217, 4, 3, 2, 32, 8, 9});
        check.dueRun(x, 1, 1);
        check.duePart(x, 0, 0, 4, 3, 2, 0, -1);
    }

    private static void headsCutOff(Check check) {
        int[] head = Check.head(1, 3, 1, 0);
        for (int length = 2; length < 6; length++) {
            int[] cut = Arrays.copyOf(head, length);
            check.dueRun(Check.fed(1, 99, cut), 0, length);
            check.dueRun(Check.fed(1, 99, head, cut), 1, 1 + length);
        }
        check.dueRun(Check.fed(1, 99, head), 1, 1);
    }

    private static void headAtTheVeryEnd(Check check) {
        int[] head = Check.head(2, 3, 1, 0);
        check.dueRun(Check.fed(2, 65536, Check.full(head)), 1, 1195);
        check.dueRun(Check.fed(2, 65536, Check.full(Arrays.copyOf(head, 5))), 0, 1200);
    }

    /** Heads by these numbers, codes and sizes, with a check that fits, are those of parts. */
    private static void dueRight(Check check, int[][] heads) {
        for (int[] head : heads) {
            MarkRecovery x = Check.fed(1, 999, Check.head(1, head[0], head[1], head[2]), new int[head[2]]);
            check.dueRun(x, 1, 1);
            check.duePart(x, 0, 0, head[0], head[1], head[2], 0, -1);
        }
    }

    private static void dueWrong(Check check, int[][] heads) {
        for (int[] head : heads) {
            int[] bytes = Check.join(Check.head(1, head[0], head[1], head[2]), new int[300]);
            check.dueRun(Check.fed(1, 999, bytes), 0, 306);
        }
    }

    private static void smallestAndLargestSum(Check check) {
        check.dueRun(Check.fed(0, 99, new int[] {255, 217, 0, 0, 0, 165}), 1, 1);
        check.dueRun(Check.fed(0, 99, new int[] {255, 217, 15, 4, 64, 202}, new int[64]), 1, 1);
    }

    private static void sumsAroundTheWrap(Check check) {
        check.dueRun(Check.fed(0, 99, new int[] {255, 217, 12, 0, 6, 255}, new int[6]), 1, 1);
        check.dueRun(Check.fed(0, 99, new int[] {255, 217, 12, 0, 7, 0}, new int[7]), 1, 1);
        check.dueRun(Check.fed(0, 99, new int[] {255, 217, 12, 0, 8, 1}, new int[8]), 1, 1);
        check.dueRun(Check.fed(0, 99, new int[] {255, 217, 0, 3, 0, 2}), 1, 1);
    }

    private static void eachOtherCheck(Check check) {
        int[] head = Check.head(0, 15, 4, 0);
        int right = head[5];
        check.due("the check that is right", 138, () -> right);
        for (int value = 0; value < 256; value++) {
            head[5] = value;
            check.dueRun(Check.fed(0, 99, head), value == right ? 1 : 0, value == right ? 1 : 6);
        }
    }

    private static void justSoManyData(Check check) {
        MarkRecovery x = Check.ran(0, 99, Check.join(Check.head(0, 2, 0, 16), Check.rising(1, 16)));
        check.duePart(x, 0, 0, 2, 0, 16, 0, -1);
        check.due("decode(0)", 0, () -> x.decode(0));
        check.dueSamples(x, 32, 1, Check.rising(1, 16));
    }

    private static void oneDataTooFew(Check check) {
        check.dueRun(Check.fed(0, 99, Check.head(0, 2, 0, 16), Check.rising(1, 15)), 0, 21);
        check.dueRun(Check.fed(0, 99, Check.head(0, 2, 0, 1)), 0, 6);
        check.dueRun(Check.fed(0, 99, Check.head(0, 2, 0, 64), Check.rising(1, 63)), 0, 69);
    }

    private static void noDataNeeded(Check check) {
        MarkRecovery x = Check.fed(0, 99, Check.head(0, 2, 0, 0));
        check.dueRun(x, 1, 1);
        check.duePart(x, 0, 0, 2, 0, 0, 0, -1);
        check.due("decode(0)", 1, () -> x.decode(0));
    }

    private static void moreThanItsData(Check check) {
        MarkRecovery x = Check.ran(0, 99, Check.join(Check.head(0, 2, 0, 15), Check.rising(1, 20)));
        check.duePart(x, 0, 0, 2, 0, 15, 0, -1);
        check.due("decode(0)", 1, () -> x.decode(0));
    }

    private static void dataAtTheVeryEnd(Check check) {
        MarkRecovery x = Check.fed(0, 65536, Check.full(Check.part(0, 9, 0, Check.rising(5, 64))));
        check.dueRun(x, 1, 1131);
        check.duePart(x, 0, 1130, 9, 0, 64, 0, -1);
        check.due("decode(0)", 0, () -> x.decode(0));
        check.dueSamples(x, 144, 1, Check.rising(5, 16));
    }
}
