/** Terms: what is SURE, GUESSED and FILLED. */
final class FillEdges {
    private static final int[] TOLD = {9, 0, 1, 2, 255, 255, 254, 0, 0, 7, 100, 101, 3, 3, 250, 77};

    private FillEdges() {
    }

    static void all(Edges edges) {
        edges.sentence("A sample that was told is SURE, if its PART was not GUESSED (GUESSED otherwise),")
                .edge("of a part, and of a guessed one", FillEdges::sureAndGuessed)
                .edge("not before it is told", FillEdges::notBeforeTold);
        edges.sentence("as long as there is no other run.")
                .edge("bytes fed and altered do not matter", FillEdges::fedAndAltered)
                .edge("another run, also one that finds the same", FillEdges::anotherRun);
        edges.sentence("FILLED, those that were not told get values, in order:")
                .edge("empty: nothing told, all are filled", check -> dueFilled(check, 256))
                .edge("one row told", check -> dueFilled(check, 240, 7))
                .edge("the first and the last row told", check -> dueFilled(check, 224, 0, 15))
                .edge("full: all told, none is filled", check -> dueFilled(check, 0, Check.rising(0, 16)))
                .edge("guessed ones were told", FillEdges::guessedOnesWereTold);
        edges.sentence("by rule 0 the mean, rounded down, of the samples to its left (in its row) and above it"
                        + " that have values by then, told or filled,")
                .edge("rounded down", FillEdges::meansRoundDown)
                .edge("the smallest and the largest mean", FillEdges::extremeMeans)
                .edge("not from the row before by the left", FillEdges::leftInItsRow)
                .edge("not from the right and not from below", FillEdges::notFromBelow)
                .edge("above is filled", FillEdges::aboveIsFilled)
                .edge("above is guessed", FillEdges::aboveIsGuessed)
                .edge("what is filled again has no value yet", FillEdges::filledAgain);
        edges.sentence("or what the one of them has; 128 without such;")
                .edge("only above: the first of a row", FillEdges::onlyAbove)
                .edge("only left: the first row", FillEdges::onlyLeft)
                .edge("neither: the first sample", FillEdges::neither);
        edges.sentence("by rule 1: 255;")
                .edge("in each row, whatever was told", FillEdges::ruleOne);
        edges.sentence("by rule 2 what the one above has; 255 in the first row.")
                .edge("the first row", FillEdges::ruleTwoFirstRow)
                .edge("the second row, above told", FillEdges::ruleTwoAboveTold)
                .edge("above is filled, down to the last row", FillEdges::ruleTwoAboveFilled)
                .edge("above is guessed", FillEdges::ruleTwoAboveGuessed);
    }

    /** These rows are told, each sample by the value 10 times the row. */
    private static MarkRecovery withRows(int... rows) {
        MarkRecovery x = new MarkRecovery(0, 99);
        for (int row : rows) {
            Check.feed(x, Check.part(0, row, 1, 16, 10 * row));
        }
        x.run();
        x.decodeAll();
        return x;
    }

    /** One row is told by these values. */
    private static MarkRecovery withRow(int row, int... values) {
        MarkRecovery x = Check.ran(0, 99, Check.part(0, row, 0, values));
        x.decodeAll();
        return x;
    }

    /** Row 4 is guessed. */
    private static MarkRecovery withGuess(int... values) {
        MarkRecovery x = Check.ran(0, 99, Check.join(Check.part(0, 3, 0), Check.broken(0, values)));
        x.decodeAll();
        return x;
    }

    private static void sureAndGuessed(Check check) {
        MarkRecovery x = Check.ran(0, 99, Check.join(Check.part(0, 3, 1, 16, 5), Check.broken(0, 16, 6)));
        check.due("decodeAll()", 0, x::decodeAll);
        check.dueSamples(x, 48, 1, Check.same(5, 16));
        check.dueSamples(x, 64, 2, Check.same(6, 16));
        check.due("told(8)", 16, () -> x.told(8));
    }

    private static void notBeforeTold(Check check) {
        MarkRecovery x = Check.ran(0, 99, Check.part(0, 3, 1, 16, 5));
        check.dueSamples(x, 48, 0, Check.same(-1, 16));
        check.due("told(8)", 0, () -> x.told(8));
    }

    private static void fedAndAltered(Check check) {
        MarkRecovery x = withGuess(TOLD);
        Check.feed(x, 1, 2);
        x.alter(0, 0);
        check.dueSamples(x, 64, 2, TOLD);
        MarkRecovery sure = withRow(4, TOLD);
        sure.alter(7, 9);
        Check.feed(sure, 1, 2);
        check.dueSamples(sure, 64, 1, TOLD);
        check.due("told(8)", 16, () -> sure.told(8));
    }

    private static void anotherRun(Check check) {
        MarkRecovery x = Check.ran(0, 99, Check.join(Check.part(0, 3, 1, 16, 5), Check.broken(0, 16, 6)));
        x.decodeAll();
        check.due("run()", 2, x::run);
        check.dueSamples(x, 48, 0, Check.same(-1, 32));
        check.due("told(8)", 0, () -> x.told(8));
    }

    /** With these rows told, so many samples are filled by each rule. */
    private static void dueFilled(Check check, int filled, int... rows) {
        for (int rule = 0; rule < 3; rule++) {
            int asked = rule;
            MarkRecovery x = withRows(rows);
            check.due("fill(" + rule + ")", filled, () -> x.fill(asked));
            for (int row : rows) {
                check.dueSamples(x, 16 * row, 1, 10 * row);
                check.dueSamples(x, 16 * row + 15, 1, 10 * row);
            }
            for (int row = 0; row < 16; row++) {
                int state = contains(rows, row) ? 1 : 3;
                int first = 16 * row;
                check.due("state(" + first + ")", state, () -> x.state(first));
                check.due("state(" + (first + 15) + ")", state, () -> x.state(first + 15));
            }
        }
    }

    private static boolean contains(int[] rows, int wanted) {
        for (int row : rows) {
            if (row == wanted) {
                return true;
            }
        }
        return false;
    }

    private static void guessedOnesWereTold(Check check) {
        for (int rule = 0; rule < 3; rule++) {
            int asked = rule;
            MarkRecovery x = withGuess(TOLD);
            check.due("fill(" + rule + ")", 240, () -> x.fill(asked));
            check.dueSamples(x, 64, 2, TOLD);
        }
    }

    private static void meansRoundDown(Check check) {
        MarkRecovery x = withRow(0, TOLD);
        check.due("fill(0)", 240, () -> x.fill(0));
        check.dueSamples(x, 16, 3, 9, 4, 2, 2, 128, 191, 222, 111, 55, 31, 65, 83, 43, 23, 136, 106);
    }

    private static void extremeMeans(Check check) {
        MarkRecovery low = withRow(0, new int[16]);
        low.fill(0);
        check.dueSamples(low, 16, 3, new int[240]);
        MarkRecovery high = withRow(0, Check.same(255, 16));
        high.fill(0);
        check.dueSamples(high, 16, 3, Check.same(255, 240));
        MarkRecovery both = withRow(0, 0, 255, 255, 1, 0, 0, 0, 0, 0, 0, 0, 0, 0, 0, 0, 0);
        both.fill(0);
        check.dueSamples(both, 16, 3, 0, 127, 191, 96, 48, 24, 12, 6, 3, 1, 0, 0, 0, 0, 0, 0);
    }

    private static void leftInItsRow(Check check) {
        MarkRecovery x = withRow(0, 100, 0, 0, 0, 0, 0, 0, 0, 0, 0, 0, 0, 0, 0, 0, 200);
        x.fill(0);
        check.dueSamples(x, 16, 3, 100, 50);
        check.dueSamples(x, 32, 3, 100, 75);
        check.dueSamples(x, 240, 3, 100);
    }

    private static void notFromBelow(Check check) {
        MarkRecovery x = withRow(1, 40, 0, 0, 0, 0, 0, 0, 0, 0, 0, 0, 0, 0, 0, 0, 0);
        x.fill(0);
        check.dueSamples(x, 0, 3, Check.same(128, 16));
        check.dueSamples(x, 32, 3, 40, 20, 10, 5, 2, 1, 0);
    }

    private static void aboveIsFilled(Check check) {
        MarkRecovery x = withRow(0, 0, 200, 0, 0, 0, 0, 0, 0, 0, 0, 0, 0, 0, 0, 0, 0);
        x.fill(0);
        check.dueSamples(x, 16, 3, 0, 100, 50, 25, 12);
        check.dueSamples(x, 32, 3, 0, 50, 50, 37, 24);
    }

    private static void aboveIsGuessed(Check check) {
        MarkRecovery x = withGuess(Check.join(new int[] {0, 200}, new int[14]));
        x.fill(0);
        check.dueSamples(x, 64, 2, 0, 200);
        check.dueSamples(x, 80, 3, 0, 100, 50, 25, 12);
    }

    private static void filledAgain(Check check) {
        MarkRecovery x = withRow(2, Check.same(60, 16));
        x.fill(1);
        check.due("fill(0) behind fill(1)", 240, () -> x.fill(0));
        check.dueSamples(x, 0, 3, Check.same(128, 32));
        check.dueSamples(x, 32, 1, Check.same(60, 16));
        check.dueSamples(x, 48, 3, Check.same(60, 208));
    }

    private static void onlyAbove(Check check) {
        MarkRecovery x = withRow(0, TOLD);
        x.fill(0);
        for (int row = 1; row < 16; row++) {
            check.dueSamples(x, 16 * row, 3, TOLD[0]);
        }
    }

    private static void onlyLeft(Check check) {
        MarkRecovery x = withRow(1, TOLD);
        x.fill(0);
        check.dueSamples(x, 1, 3, Check.same(128, 15));
    }

    private static void neither(Check check) {
        MarkRecovery x = new MarkRecovery(0, 9);
        x.fill(0);
        check.dueSamples(x, 0, 3, 128);
        check.due("fill(0) again", 256, () -> x.fill(0));
        check.dueSamples(x, 0, 3, Check.same(128, 256));
    }

    private static void ruleOne(Check check) {
        MarkRecovery x = withRow(4, TOLD);
        x.fill(0);
        check.due("fill(1)", 240, () -> x.fill(1));
        check.dueSamples(x, 0, 3, Check.same(255, 64));
        check.dueSamples(x, 64, 1, TOLD);
        check.dueSamples(x, 80, 3, Check.same(255, 176));
    }

    private static void ruleTwoFirstRow(Check check) {
        MarkRecovery x = withRow(1, TOLD);
        x.fill(0);
        check.due("fill(2)", 240, () -> x.fill(2));
        check.dueSamples(x, 0, 3, Check.same(255, 16));
        MarkRecovery none = new MarkRecovery(0, 9);
        check.due("fill(2) of nothing", 256, () -> none.fill(2));
        check.dueSamples(none, 0, 3, Check.same(255, 256));
    }

    private static void ruleTwoAboveTold(Check check) {
        MarkRecovery x = withRow(0, TOLD);
        x.fill(2);
        check.dueSamples(x, 0, 1, TOLD);
        check.dueSamples(x, 16, 3, TOLD);
    }

    private static void ruleTwoAboveFilled(Check check) {
        MarkRecovery x = withRow(3, TOLD);
        x.fill(0);
        x.fill(2);
        check.dueSamples(x, 0, 3, Check.same(255, 48));
        check.dueSamples(x, 64, 3, TOLD);
        check.dueSamples(x, 240, 3, TOLD);
    }

    private static void ruleTwoAboveGuessed(Check check) {
        MarkRecovery x = withGuess(TOLD);
        x.fill(2);
        check.dueSamples(x, 80, 3, TOLD);
    }
}
