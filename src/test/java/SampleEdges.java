/** Terms: SAMPLES and DECODING, whatever the CODE. */
final class SampleEdges {
    private static final int[] ONES = Check.rising(60, 16);
    private static final int[] OTHERS = Check.rising(90, 16);
    /** By code 4 something is thrown at the 16th sample alone. */
    private static final int[] THROWN_LATE = Check.join(new int[] {7}, new int[14], new int[] {255 - 7});

    private SampleEdges() {
    }

    static void all(Edges edges) {
        edges.sentence("SAMPLES 0 .. 255, of values 0 .. 255, in rows of 16:")
                .edge("the first and the last sample, and those beside", SampleEdges::firstAndLastSample)
                .edge("the smallest and the largest value", SampleEdges::smallestAndLargestValue);
        edges.sentence("PART number n tells samples 16 n .. 16 n + 15.")
                .edge("each n, and the samples on both sides", SampleEdges::eachRow);
        edges.sentence("DECODING a PART: its DATA are read in order, by its CODE; what comes out are its 16 samples,")
                .edge("the same data by each code", SampleEdges::sameDataByEachCode)
                .edge("empty: no data by each code", SampleEdges::noDataByEachCode)
                .edge("no data of the part decoded before", SampleEdges::noDataOfAnother);
        edges.sentence("unless something is THROWN: then none of them, and what they were stays.")
                .edge("nothing stays nothing", SampleEdges::nothingStays)
                .edge("sure ones stay", SampleEdges::sureOnesStay)
                .edge("guessed ones stay", SampleEdges::guessedOnesStay)
                .edge("filled ones stay", SampleEdges::filledOnesStay)
                .edge("each number that can be thrown", SampleEdges::eachThrown);
        edges.sentence("Likewise a GUESSED one does not take a sample that is SURE.")
                .edge("a sure one stays", SampleEdges::sureStaysSure)
                .edge("one that is nothing is taken", SampleEdges::guessTakesNothing)
                .edge("a filled one is taken", SampleEdges::guessTakesFilled)
                .edge("a guessed one is taken", SampleEdges::guessTakesGuessed)
                .edge("one that is not guessed takes all", SampleEdges::sureTakesAll);
    }

    private static void firstAndLastSample(Check check) {
        MarkRecovery x = new MarkRecovery(0, 9);
        check.due("at(0)", -1, () -> x.at(0));
        check.due("at(255)", -1, () -> x.at(255));
        check.due("state(0)", 0, () -> x.state(0));
        check.due("state(255)", 0, () -> x.state(255));
        check.dueThrow("at(-1)", IndexOutOfBoundsException.class, () -> x.at(-1));
        check.dueThrow("at(256)", IndexOutOfBoundsException.class, () -> x.at(256));
        check.dueThrow("state(-1)", IndexOutOfBoundsException.class, () -> x.state(-1));
        check.dueThrow("state(256)", IndexOutOfBoundsException.class, () -> x.state(256));
    }

    private static void smallestAndLargestValue(Check check) {
        int[] data = {0, 255, 0, 255, 1, 254, 127, 128, 0, 0, 255, 255, 0, 255, 255, 0};
        Codes.dueMade(check, 0, data, data);
    }

    private static void eachRow(Check check) {
        for (int n = 0; n < 16; n++) {
            MarkRecovery x = Check.ran(0, 9, Check.part(0, n, 0, ONES));
            check.due("decode(0)", 0, () -> x.decode(0));
            check.dueSamples(x, 16 * n, 1, ONES);
            if (n > 0) {
                check.dueSamples(x, 16 * n - 1, 0, -1);
            }
            if (n < 15) {
                check.dueSamples(x, 16 * n + 16, 0, -1);
            }
            check.due("told(8)", 16, () -> x.told(8));
        }
    }

    private static void sameDataByEachCode(Check check) {
        int[] data = {0, 8, 2, 16, 1, 32, 2, 8, 2, 16, 2, 64, 1, 32, 2, 8, 2, 16};
        Codes.dueMade(check, 0, data, 0, 8, 2, 16, 1, 32, 2, 8, 2, 16, 2, 64, 1, 32, 2, 8);
        Codes.dueThrown(check, 1, 1, data);
        Codes.dueMade(check, 1, Check.join(data, new int[] {2, 5}),
                16, 16, 32, 8, 8, 16, 16, 64, 64, 32, 8, 8, 16, 16, 5, 5);
        Codes.dueThrown(check, 2, 1, data);
        Codes.dueThrown(check, 3, 4, data);
        Codes.dueMade(check, 4, data, 0, 8, 10, 26, 27, 59, 61, 69, 71, 87, 89, 153, 154, 186, 188, 196);
    }

    private static void noDataByEachCode(Check check) {
        for (int code = 0; code < 5; code++) {
            Codes.dueThrown(check, code, 1);
        }
    }

    private static void noDataOfAnother(Check check) {
        for (int code = 0; code < 5; code++) {
            int[] enough = Check.same(1, 64);
            MarkRecovery x = Check.ran(0, 99, Check.join(Check.part(0, 1, 0, enough), Check.part(0, 2, code, 1, 10)));
            check.due("decode(0)", 0, () -> x.decode(0));
            int thrown = code == 3 ? 5 : 1;
            check.due("decode(1) of code " + code, thrown, () -> x.decode(1));
            check.dueSamples(x, 32, 0, Check.same(-1, 16));
        }
    }

    /** Part 0 is right and has number 3, part 1 is guessed and has 4; 2 and 3 throw late in these rows. */
    private static MarkRecovery fourParts() {
        return Check.ran(0, 200, Check.join(Check.part(0, 3, 0, ONES), Check.broken(0, OTHERS),
                Check.part(0, 3, 4, THROWN_LATE), Check.part(0, 4, 4, THROWN_LATE)));
    }

    private static void nothingStays(Check check) {
        MarkRecovery x = fourParts();
        check.due("decode(2)", 6, () -> x.decode(2));
        check.dueSamples(x, 48, 0, Check.same(-1, 16));
    }

    private static void sureOnesStay(Check check) {
        MarkRecovery x = fourParts();
        check.due("decode(0)", 0, () -> x.decode(0));
        check.due("decode(2)", 6, () -> x.decode(2));
        check.dueSamples(x, 48, 1, ONES);
        check.due("told(8)", 16, () -> x.told(8));
    }

    private static void guessedOnesStay(Check check) {
        MarkRecovery x = fourParts();
        check.due("decode(1)", 0, () -> x.decode(1));
        check.due("decode(3)", 6, () -> x.decode(3));
        check.dueSamples(x, 64, 2, OTHERS);
    }

    private static void filledOnesStay(Check check) {
        MarkRecovery x = fourParts();
        x.fill(1);
        check.due("decode(3)", 6, () -> x.decode(3));
        check.dueSamples(x, 64, 3, Check.same(255, 16));
    }

    private static void eachThrown(Check check) {
        Codes.dueThrown(check, 0, 1, 1, 2, 3);
        Codes.dueThrown(check, 2, 2, 1, 0);
        Codes.dueThrown(check, 3, 3, 2, 0);
        Codes.dueThrown(check, 3, 4, 0, 0, 3, 0);
        Codes.dueThrown(check, 3, 5, 1, 0);
        Codes.dueThrown(check, 3, 6, 7, 0);
    }

    /** Parts 1 and 2 are guessed; 0 and 3 are right; 1 and 3 tell row 4, 2 and 4 (guessed) row 5. */
    private static MarkRecovery rowsTwice() {
        return Check.ran(0, 300, Check.join(Check.part(0, 3, 0, Check.same(1, 16)), Check.broken(0, ONES),
                Check.broken(0, ONES), Check.part(0, 4, 0, OTHERS), Check.broken(0, OTHERS)));
    }

    private static void sureStaysSure(Check check) {
        MarkRecovery x = rowsTwice();
        check.due("decode(3), right", 0, () -> x.decode(3));
        check.due("decode(1), guessed", 0, () -> x.decode(1));
        check.dueSamples(x, 64, 1, OTHERS);
        check.due("part(1, 5)", 0, () -> x.part(1, 5));
        check.due("told(8)", 16, () -> x.told(8));
        check.due("told(7)", 0, () -> x.told(7));
    }

    private static void guessTakesNothing(Check check) {
        MarkRecovery x = rowsTwice();
        check.due("decode(1), guessed", 0, () -> x.decode(1));
        check.dueSamples(x, 64, 2, ONES);
        check.due("told(8)", 0, () -> x.told(8));
    }

    private static void guessTakesFilled(Check check) {
        MarkRecovery x = rowsTwice();
        x.fill(0);
        check.due("decode(1), guessed", 0, () -> x.decode(1));
        check.dueSamples(x, 64, 2, ONES);
    }

    private static void guessTakesGuessed(Check check) {
        MarkRecovery x = rowsTwice();
        check.due("decode(2), guessed", 0, () -> x.decode(2));
        check.dueSamples(x, 80, 2, ONES);
        check.due("decode(4), guessed", 0, () -> x.decode(4));
        check.dueSamples(x, 80, 2, OTHERS);
    }

    private static void sureTakesAll(Check check) {
        MarkRecovery x = rowsTwice();
        x.decode(1);
        check.due("decode(3) behind a guess", 0, () -> x.decode(3));
        check.dueSamples(x, 64, 1, OTHERS);
        MarkRecovery filled = rowsTwice();
        filled.fill(2);
        check.due("decode(3) behind fill", 0, () -> filled.decode(3));
        check.dueSamples(filled, 64, 1, OTHERS);
        MarkRecovery twice = Check.ran(0, 99, Check.join(Check.part(0, 3, 0, ONES), Check.part(0, 3, 0, OTHERS)));
        check.due("decode(0)", 0, () -> twice.decode(0));
        check.due("decode(1) behind a sure one", 0, () -> twice.decode(1));
        check.dueSamples(twice, 48, 1, OTHERS);
    }
}
