/** Terms: PARTS that are GUESSED. */
final class GuessEdges {
    private static final int[] FIRST = Check.part(0, 4, 2);

    private GuessEdges() {
    }

    static void all(Edges edges) {
        edges.sentence("else, if there is a PART before, a PART is GUESSED:")
                .edge("none before: none is guessed", GuessEdges::noneBefore)
                .edge("one before, of a head that is wrong", GuessEdges::oneBefore)
                .edge("each thing by which a head is wrong", GuessEdges::eachWrongHead)
                .edge("too few data behind a head that is right", GuessEdges::tooFewData)
                .edge("the one before is guessed too", GuessEdges::guessedBefore)
                .edge("one of the run before does not count", GuessEdges::partOfTheRunBefore);
        edges.sentence("its NUMBER is one more than that of the PART before, modulo 16,")
                .edge("0 and 14", GuessEdges::numbersBelowTheWrap)
                .edge("wrap-around: 15", GuessEdges::numberAtTheWrap)
                .edge("wrap-around: a chain of guesses", GuessEdges::chainOfGuesses)
                .edge("the one right before, not the largest", GuessEdges::theOneRightBefore);
        edges.sentence("its CODE is the same;")
                .edge("each code, not that of its own head", GuessEdges::eachCode);
        edges.sentence("its DATA are from behind the HEAD on all bytes before the next place at which"
                        + " a MARK stands (both of its bytes),")
                .edge("empty: the head is the last there is", GuessEdges::nothingBehind)
                .edge("empty: a mark right behind the head", GuessEdges::markRightBehind)
                .edge("no mark: to the last byte", GuessEdges::toTheLastByte)
                .edge("half a mark does not end them", GuessEdges::halfAMark)
                .edge("half a mark as the very last byte", GuessEdges::halfAMarkAtTheEnd)
                .edge("a mark as the two last bytes ends them", GuessEdges::markAtTheEnd)
                .edge("a mark behind its own first byte", GuessEdges::markBehindItsFirstByte)
                .edge("a mark within the head is not behind it", GuessEdges::markWithinTheHead)
                .edge("a mark of another kind does not end them", GuessEdges::markOfAnotherKind)
                .edge("they are what stands there", GuessEdges::theBytesThemselves);
        edges.sentence("stands (both of its bytes), at most 64,")
                .edge("63, 64 and 65 bytes", GuessEdges::aroundSixtyFour)
                .edge("a mark behind 63, 64 and 65", GuessEdges::markAroundSixtyFour);
        edges.sentence("each one of them a STEP,")
                .edge("0, 1 and 64 data", GuessEdges::stepsOfData);
        edges.sentence("as long as there are STEPS;")
                .edge("empty: none left behind the head", check -> dueCut(check, 2, 0))
                .edge("one left", check -> dueCut(check, 3, 1))
                .edge("one too few", check -> dueCut(check, 11, 9))
                .edge("just so many", check -> dueCut(check, 12, 10))
                .edge("one more", check -> dueCut(check, 13, 10));
        edges.sentence("it goes on behind these.")
                .edge("a head right behind", GuessEdges::headRightBehind)
                .edge("a head right behind 64", GuessEdges::headBehindSixtyFour)
                .edge("bytes behind 64 are places", GuessEdges::bytesBehindSixtyFour)
                .edge("a head that begins with the 64th byte", GuessEdges::headAtTheSixtyFourth);
    }

    /** The second part is a guessed one with so many data. */
    private static void dueGuessed(Check check, MarkRecovery x, int size, int steps) {
        check.dueRun(x, 2, steps);
        check.duePart(x, 1, 6, 5, 2, size, 1, -1);
    }

    private static void noneBefore(Check check) {
        check.dueRun(Check.fed(0, 99, Check.broken(0, 1, 2, 3)), 0, 9);
        MarkRecovery x = Check.fed(0, 99, Check.broken(0, 1, 2, 3), FIRST);
        check.dueRun(x, 1, 10);
        check.duePart(x, 0, 9, 4, 2, 0, 0, -1);
    }

    private static void oneBefore(Check check) {
        dueGuessed(check, Check.fed(0, 99, FIRST, Check.broken(0, 1, 2, 3)), 3, 5);
        MarkRecovery later = Check.fed(0, 99, FIRST, new int[2], Check.broken(0, 1, 2, 3));
        check.dueRun(later, 2, 7);
        check.duePart(later, 1, 8, 5, 2, 3, 1, -1);
    }

    private static void eachWrongHead(Check check) {
        int[][] heads = {Check.head(0, 16, 1, 3), Check.head(0, 3, 5, 3), Check.head(0, 3, 1, 65),
            Check.broken(0)};
        for (int[] head : heads) {
            dueGuessed(check, Check.fed(0, 99, FIRST, head, new int[70]), 64, 1 + 1 + 64 + 6);
        }
    }

    private static void tooFewData(Check check) {
        dueGuessed(check, Check.fed(0, 99, FIRST, Check.head(0, 9, 1, 4), new int[3]), 3, 5);
        dueGuessed(check, Check.fed(0, 99, FIRST, Check.head(0, 9, 1, 1)), 0, 2);
        MarkRecovery enough = Check.fed(0, 99, FIRST, Check.head(0, 9, 1, 4), new int[4]);
        check.dueRun(enough, 2, 2);
        check.duePart(enough, 1, 6, 9, 1, 4, 0, -1);
    }

    private static void guessedBefore(Check check) {
        MarkRecovery x = Check.fed(0, 99, FIRST, Check.broken(0, 1), Check.broken(0, 1, 2));
        check.dueRun(x, 3, 6);
        check.duePart(x, 2, 13, 6, 2, 2, 1, -1);
    }

    private static void partOfTheRunBefore(Check check) {
        MarkRecovery x = Check.fed(0, 99, FIRST, Check.broken(0, 1, 2, 3));
        check.dueRun(x, 2, 5);
        x.alter(5, 0);
        check.dueRun(x, 0, 15);
    }

    private static void dueNumber(Check check, int before, int guessed) {
        MarkRecovery x = Check.ran(0, 99, Check.join(Check.part(0, before, 2), Check.broken(0)));
        check.duePart(x, 1, 6, guessed, 2, 0, 1, -1);
    }

    private static void numbersBelowTheWrap(Check check) {
        dueNumber(check, 0, 1);
        dueNumber(check, 14, 15);
    }

    private static void numberAtTheWrap(Check check) {
        dueNumber(check, 15, 0);
    }

    private static void chainOfGuesses(Check check) {
        MarkRecovery x = Check.ran(0, 99, Check.join(Check.part(0, 14, 3),
                Check.broken(0), Check.broken(0), Check.broken(0)));
        check.duePart(x, 1, 6, 15, 3, 0, 1, -1);
        check.duePart(x, 2, 12, 0, 3, 0, 1, -1);
        check.duePart(x, 3, 18, 1, 3, 0, 1, -1);
    }

    private static void theOneRightBefore(Check check) {
        MarkRecovery x = Check.ran(0, 99, Check.join(Check.part(0, 12, 3), Check.part(0, 2, 1), Check.broken(0)));
        check.duePart(x, 2, 12, 3, 1, 0, 1, -1);
    }

    private static void eachCode(Check check) {
        for (int code = 0; code < 5; code++) {
            int[] wrong = Check.head(0, 9, (code + 2) % 5, 0);
            wrong[5] ^= 1;
            MarkRecovery x = Check.ran(0, 99, Check.join(Check.part(0, 3, code), wrong));
            check.duePart(x, 1, 6, 4, code, 0, 1, -1);
        }
    }

    private static void nothingBehind(Check check) {
        dueGuessed(check, Check.fed(0, 99, FIRST, Check.broken(0)), 0, 2);
    }

    private static void markRightBehind(Check check) {
        dueGuessed(check, Check.fed(0, 99, FIRST, Check.broken(0, 255, 217)), 0, 4);
        MarkRecovery x = Check.fed(0, 99, FIRST, Check.broken(0), Check.part(0, 9, 1, 8));
        check.dueRun(x, 3, 3);
        check.duePart(x, 1, 6, 5, 2, 0, 1, -1);
    }

    private static void toTheLastByte(Check check) {
        dueGuessed(check, Check.fed(0, 99, FIRST, Check.broken(0, Check.rising(1, 40))), 40, 42);
        MarkRecovery full = Check.fed(0, 65536, Check.full(Check.join(FIRST, Check.broken(0, Check.rising(1, 40)))));
        check.dueRun(full, 2, 1148 + 42);
        check.duePart(full, 1, 1154, 5, 2, 40, 1, -1);
    }

    private static void halfAMark(Check check) {
        dueGuessed(check, Check.fed(0, 99, FIRST, Check.broken(0, 255, 216, 217, 217, 9)), 5, 7);
        dueGuessed(check, Check.fed(0, 99, FIRST, Check.broken(0, 217, 255, 218, 254, 217)), 5, 7);
    }

    private static void halfAMarkAtTheEnd(Check check) {
        dueGuessed(check, Check.fed(0, 99, FIRST, Check.broken(0, 1, 255)), 2, 4);
        MarkRecovery full = Check.fed(0, 65536, Check.full(Check.join(FIRST, Check.broken(0, 1, 255))));
        check.dueRun(full, 2, 1186 + 4);
        check.duePart(full, 1, 1192, 5, 2, 2, 1, -1);
        // What was there before clear() is no second byte of a mark.
        MarkRecovery cleared = Check.fed(0, 99, Check.same(217, 20));
        cleared.clear();
        Check.feed(cleared, Check.join(FIRST, Check.broken(0, 1, 255)));
        dueGuessed(check, cleared, 2, 4);
    }

    private static void markAtTheEnd(Check check) {
        dueGuessed(check, Check.fed(0, 99, FIRST, Check.broken(0, 1, 2, 255, 217)), 2, 6);
    }

    private static void markBehindItsFirstByte(Check check) {
        dueGuessed(check, Check.fed(0, 99, FIRST, Check.broken(0, 1, 255, 255, 217)), 2, 6);
    }

    private static void markWithinTheHead(Check check) {
        dueGuessed(check, Check.fed(0, 99, FIRST, new int[] {255, 217, 255, 217, 255, 217, 9}), 1, 3);
        dueGuessed(check, Check.fed(0, 99, FIRST, new int[] {255, 217, 0, 0, 0, 255, 217, 9}), 2, 4);
    }

    private static void markOfAnotherKind(Check check) {
        dueGuessed(check, Check.fed(0, 99, FIRST, Check.broken(0, 80, 65, 151, 74)), 4, 6);
    }

    private static void theBytesThemselves(Check check) {
        int[] data = Check.rising(100, 16);
        MarkRecovery x = Check.ran(0, 99, Check.join(Check.part(0, 4, 0), Check.broken(0, data)));
        check.due("decode(1)", 0, () -> x.decode(1));
        check.dueSamples(x, 80, 2, data);
    }

    private static void aroundSixtyFour(Check check) {
        dueGuessed(check, Check.fed(0, 99, FIRST, Check.broken(0), new int[63]), 63, 1 + 1 + 63);
        dueGuessed(check, Check.fed(0, 99, FIRST, Check.broken(0), new int[64]), 64, 1 + 1 + 64);
        dueGuessed(check, Check.fed(0, 99, FIRST, Check.broken(0), new int[65]), 64, 1 + 1 + 64 + 1);
    }

    private static void markAroundSixtyFour(Check check) {
        int[] mark = {255, 217};
        dueGuessed(check, Check.fed(0, 99, FIRST, Check.broken(0), new int[63], mark), 63, 1 + 1 + 63 + 2);
        dueGuessed(check, Check.fed(0, 99, FIRST, Check.broken(0), new int[64], mark), 64, 1 + 1 + 64 + 2);
        dueGuessed(check, Check.fed(0, 99, FIRST, Check.broken(0), new int[65], mark), 64, 1 + 1 + 64 + 3);
    }

    private static void stepsOfData(Check check) {
        int[] sizes = {0, 1, 64};
        for (int size : sizes) {
            dueGuessed(check, Check.fed(0, 99, FIRST, Check.broken(0, new int[size])), size, 2 + size);
        }
    }

    /** Of ten data so many are there, if there are so many steps. */
    private static void dueCut(Check check, int steps, int size) {
        MarkRecovery x = Check.fed(0, steps, FIRST, Check.broken(0, Check.rising(1, 10)));
        dueGuessed(check, x, size, Math.min(steps, 12));
    }

    private static void headRightBehind(Check check) {
        MarkRecovery x = Check.fed(0, 99, FIRST, Check.broken(0, 1, 2, 3), Check.part(0, 9, 1, 8));
        check.dueRun(x, 3, 6);
        check.duePart(x, 2, 15, 9, 1, 1, 0, -1);
    }

    private static void headBehindSixtyFour(Check check) {
        MarkRecovery x = Check.fed(0, 99, FIRST, Check.broken(0), new int[64], Check.part(0, 9, 1, 8));
        check.dueRun(x, 3, 1 + 1 + 64 + 1);
        check.duePart(x, 2, 76, 9, 1, 1, 0, -1);
    }

    private static void bytesBehindSixtyFour(Check check) {
        MarkRecovery x = Check.fed(0, 99, FIRST, Check.broken(0), new int[67], Check.part(0, 9, 1, 8));
        check.dueRun(x, 3, 1 + 1 + 64 + 3 + 1);
        check.duePart(x, 2, 79, 9, 1, 1, 0, -1);
    }

    private static void headAtTheSixtyFourth(Check check) {
        MarkRecovery x = Check.fed(0, 99, FIRST, Check.broken(0), new int[63], Check.part(0, 9, 1, 8));
        check.dueRun(x, 3, 1 + 1 + 63 + 1);
        check.duePart(x, 1, 6, 5, 2, 63, 1, -1);
        check.duePart(x, 2, 75, 9, 1, 1, 0, -1);
    }
}
