/** Terms: RUN and STEPS. */
final class RunEdges {
    private static final int[] DATA = Check.rising(1, 16);

    private RunEdges() {
    }

    static void all(Edges edges) {
        edges.sentence("RUN searches: from place 0 on, each place at which it looks costs one STEP;")
                .edge("empty: no place, no step", check -> check.dueRun(new MarkRecovery(0, 9), 0, 0))
                .edge("one byte: one step", check -> check.dueRun(Check.fed(0, 9, new int[1]), 0, 1))
                .edge("full: 1,200 places", check -> check.dueRun(Check.fed(0, 65536, new int[1200]), 0, 1200))
                .edge("a head at place 0", RunEdges::headAtPlaceZero)
                .edge("data of a part cost none", RunEdges::dataCostNothing)
                .edge("each run counts anew", RunEdges::eachRunCountsAnew);
        edges.sentence("at most so many STEPS are taken.")
                .edge("one step, which is the least", RunEdges::oneStep)
                .edge("one too few for the place of a head", RunEdges::tooFewForAHead)
                .edge("one too few, just so many, one more than places", RunEdges::stepsAroundPlaces);
        edges.sentence("If a HEAD stands there all of whose bytes are there: a PART by it, if it can be,")
                .edge("a head cut off is none, also behind a part", RunEdges::headCutOffBehindAPart)
                .edge("two heads of which each one is a part", RunEdges::twoHeads);
        edges.sentence("and it goes on behind its DATA;")
                .edge("a head in its data is not looked at", RunEdges::headInData)
                .edge("a mark that begins with its last byte is not looked at", RunEdges::markAcrossTheEnd)
                .edge("the very next byte is looked at", RunEdges::nextByte)
                .edge("empty: behind a part without data too", RunEdges::behindNoData);
        edges.sentence("Else it goes on one place further.")
                .edge("a head within a head that is wrong", RunEdges::headWithinAHead)
                .edge("a mark behind its own first byte", RunEdges::markBehindItsFirstByte)
                .edge("a head within one that is cut off", RunEdges::headWithinOneCutOff);
        edges.sentence("It ends behind the last byte, with the STEPS, or with 16 PARTS.")
                .edge("15 parts: it goes on", RunEdges::fifteenParts)
                .edge("full: 16 parts, and no step more", RunEdges::sixteenParts)
                .edge("too many: a 17th part is not looked at", RunEdges::seventeenParts)
                .edge("full: the 16th part is guessed", RunEdges::sixteenthIsGuessed)
                .edge("with the last byte of a guessed part", RunEdges::endsWithGuessedData)
                .edge("with the steps, in the midst", RunEdges::endsWithTheSteps);
    }

    private static void headAtPlaceZero(Check check) {
        MarkRecovery x = Check.fed(0, 99, Check.part(0, 3, 0, DATA));
        check.dueRun(x, 1, 1);
        check.due("part(0, 0)", 0, () -> x.part(0, 0));
        MarkRecovery one = Check.fed(0, 99, new int[1], Check.part(0, 3, 0, DATA));
        check.dueRun(one, 1, 2);
        check.due("part(0, 0)", 1, () -> one.part(0, 0));
    }

    private static void dataCostNothing(Check check) {
        check.dueRun(Check.fed(0, 99, Check.part(0, 3, 0, new int[64])), 1, 1);
        check.dueRun(Check.fed(0, 99, Check.part(0, 3, 0, new int[64]), new int[2]), 1, 3);
    }

    private static void eachRunCountsAnew(Check check) {
        MarkRecovery x = Check.fed(0, 8, new int[5]);
        check.dueRun(x, 0, 5);
        check.dueRun(x, 0, 5);
    }

    private static void oneStep(Check check) {
        check.dueRun(Check.fed(0, 1, Check.part(0, 3, 0, DATA), new int[3]), 1, 1);
        check.dueRun(Check.fed(0, 1, new int[1], Check.part(0, 3, 0, DATA)), 0, 1);
    }

    private static void tooFewForAHead(Check check) {
        check.dueRun(Check.fed(0, 7, new int[7], Check.part(0, 3, 0, DATA)), 0, 7);
        check.dueRun(Check.fed(0, 8, new int[7], Check.part(0, 3, 0, DATA)), 1, 8);
    }

    private static void stepsAroundPlaces(Check check) {
        check.dueRun(Check.fed(0, 19, new int[20]), 0, 19);
        check.dueRun(Check.fed(0, 20, new int[20]), 0, 20);
        check.dueRun(Check.fed(0, 21, new int[20]), 0, 20);
    }

    private static void headCutOffBehindAPart(Check check) {
        int[] first = Check.part(0, 3, 0, DATA);
        int[] head = Check.head(0, 4, 0, 0);
        for (int length = 1; length < 6; length++) {
            check.dueRun(Check.fed(0, 99, first, java.util.Arrays.copyOf(head, length)), 1, 1 + length);
        }
        check.dueRun(Check.fed(0, 99, first, head), 2, 2);
    }

    private static void twoHeads(Check check) {
        MarkRecovery x = Check.fed(0, 99, Check.part(0, 3, 0, DATA), new int[1], Check.part(0, 3, 1, 7, 8));
        check.dueRun(x, 2, 3);
        check.duePart(x, 0, 0, 3, 0, 16, 0, -1);
        check.duePart(x, 1, 23, 3, 1, 2, 0, -1);
    }

    private static void headInData(Check check) {
        MarkRecovery x = Check.fed(0, 99, Check.part(0, 3, 0, Check.head(0, 5, 1, 0)), Check.part(0, 6, 2));
        check.dueRun(x, 2, 2);
        check.duePart(x, 1, 12, 6, 2, 0, 0, -1);
    }

    private static void markAcrossTheEnd(Check check) {
        int[] rest = {217, 5, 1, 0, Check.head(0, 5, 1, 0)[5]};
        check.dueRun(Check.fed(0, 99, Check.part(0, 3, 0, 1, 255), rest), 1, 6);
    }

    private static void nextByte(Check check) {
        MarkRecovery x = Check.fed(0, 99, Check.part(0, 3, 0, DATA), Check.part(0, 4, 1, 8));
        check.dueRun(x, 2, 2);
        check.due("part(1, 0)", 22, () -> x.part(1, 0));
    }

    private static void behindNoData(Check check) {
        MarkRecovery x = Check.fed(0, 99, Check.part(0, 3, 0), Check.part(0, 4, 1));
        check.dueRun(x, 2, 2);
        check.due("part(1, 0)", 6, () -> x.part(1, 0));
    }

    private static void headWithinAHead(Check check) {
        for (int inside = 2; inside < 6; inside++) {
            int[] wrong = {255, 217, 99, 99, 99, 99};
            int[] outer = java.util.Arrays.copyOf(wrong, inside);
            MarkRecovery x = Check.fed(0, 99, outer, Check.head(0, 5, 1, 0));
            check.dueRun(x, 1, inside + 1);
            check.duePart(x, 0, inside, 5, 1, 0, 0, -1);
        }
    }

    private static void markBehindItsFirstByte(Check check) {
        MarkRecovery x = Check.fed(0, 99, new int[] {255, 255}, Check.head(0, 5, 1, 0));
        check.dueRun(x, 1, 3);
        check.due("part(0, 0)", 2, () -> x.part(0, 0));
    }

    private static void headWithinOneCutOff(Check check) {
        int[] tooLong = Check.head(0, 5, 1, 30);
        MarkRecovery x = Check.fed(0, 99, tooLong, new int[2], Check.head(0, 7, 2, 0));
        check.dueRun(x, 1, 9);
        check.duePart(x, 0, 8, 7, 2, 0, 0, -1);
    }

    private static int[] parts(int count) {
        int[] bytes = {};
        for (int i = 0; i < count; i++) {
            bytes = Check.join(bytes, Check.part(2, i % 16, 1, 16, i));
        }
        return bytes;
    }

    private static void fifteenParts(Check check) {
        check.dueRun(Check.fed(2, 99, parts(15), new int[4]), 15, 19);
    }

    private static void sixteenParts(Check check) {
        MarkRecovery x = Check.fed(2, 99, parts(16), new int[4]);
        check.dueRun(x, 16, 16);
        check.duePart(x, 15, 120, 15, 1, 2, 0, -1);
    }

    private static void seventeenParts(Check check) {
        MarkRecovery x = Check.fed(2, 99, parts(17));
        check.dueRun(x, 16, 16);
        check.dueThrow("part(16, 0)", IndexOutOfBoundsException.class, () -> x.part(16, 0));
        MarkRecovery guessed = Check.fed(2, 99, parts(16), Check.broken(2, 1, 2, 3));
        check.dueRun(guessed, 16, 16);
    }

    private static void sixteenthIsGuessed(Check check) {
        MarkRecovery x = Check.fed(2, 99, parts(15), Check.broken(2, 1, 2, 3), parts(1));
        check.dueRun(x, 16, 19);
        check.duePart(x, 15, 120, 15, 1, 3, 1, -1);
    }

    private static void endsWithGuessedData(Check check) {
        check.dueRun(Check.fed(2, 99, parts(1), Check.broken(2, 1, 2, 3)), 2, 5);
    }

    private static void endsWithTheSteps(Check check) {
        check.dueRun(Check.fed(2, 3, parts(17)), 3, 3);
        check.dueRun(Check.fed(2, 16, parts(17)), 16, 16);
        check.dueRun(Check.fed(2, 15, parts(17)), 15, 15);
    }
}
