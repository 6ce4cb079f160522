/** Terms: CODE 3 and its BOXES. */
final class BoxEdges {
    private static final int PUT = 0;
    private static final int ROW = 1;
    private static final int NUMBER = 2;
    private static final int LENGTH = 3;
    private static final int SET = 4;
    private static final int GET = 5;
    private static final int EMPTY = 6;
    private static final int REFUSE = 7;

    private BoxEdges() {
    }

    static void all(Edges edges) {
        edges.sentence("CODE 3: BOXES 0 .. 7, empty at first.")
                .edge("each one is empty at first", BoxEdges::eachIsEmpty)
                .edge("each one, the first and the last too, holds its own", BoxEdges::eachHoldsItsOwn)
                .edge("empty at first again for the next decoding", BoxEdges::emptyForTheNext);
        edges.sentence("A byte op and a byte arg, by op modulo 8:")
                .edge("wrap-around: 8 to 255 are 0 to 7", BoxEdges::opsWrapAround);
        edges.sentence("0: the box arg modulo 8 gets the number arg / 8;")
                .edge("wrap-around: args 0, 7, 8, 248 and 255", BoxEdges::argsOfNumbers)
                .edge("in the place of a number, and of a row", BoxEdges::numberInsteadOf);
        edges.sentence("1: it gets a row of n numbers, 0 each, n being arg / 8 modulo 8, less 2;")
                .edge("empty: a row of 0 numbers", check -> dueFirst(check, ops(ROW, 1, 2, LENGTH, 1, 0), 0))
                .edge("the longest row", check -> dueFirst(check, ops(ROW, 1, 7, LENGTH, 1, 0), 5))
                .edge("wrap-around: arg / 8 is 10, 15 and 31", BoxEdges::rowsWrapAround)
                .edge("0 each", BoxEdges::zeroEach)
                .edge("in the place of a number, and of a row", BoxEdges::rowInsteadOf);
        edges.sentence("below 0: THROWN 5;")
                .edge("-2 and -1", BoxEdges::rowsBelowZero)
                .edge("0 is not below 0", check -> dueFirst(check, ops(ROW, 1, 2, ROW, 1, 10, ROW, 1, 26)))
                .edge("wrap-around: arg / 8 is 8, 9, 24 and 25", BoxEdges::rowsBelowZeroWrapAround)
                .edge("whatever is in the box", BoxEdges::rowsBelowZeroInsteadOf);
        readEdges(edges);
        rowEdges(edges);
        endEdges(edges);
    }

    private static void readEdges(Edges edges) {
        edges.sentence("2: the next sample is the number in it; empty: THROWN 3; a row: THROWN 4;")
                .edge("the numbers 0 and 31", check -> dueFirst(check,
                        ops(PUT, 1, 0, NUMBER, 1, 0, PUT, 1, 31, NUMBER, 1, 31), 0, 31))
                .edge("empty", check -> dueThrown(check, 3, ops(NUMBER, 1, 0)))
                .edge("a row", check -> dueThrown(check, 4, ops(ROW, 1, 3, NUMBER, 1, 0)))
                .edge("a row of 0 numbers", check -> dueThrown(check, 4, ops(ROW, 1, 2, NUMBER, 1, 0)));
        edges.sentence("3: the next sample is the length of the row in it; empty: THROWN 3; a number: THROWN 4;")
                .edge("lengths 0, 1 and 5", check -> dueFirst(check, ops(ROW, 1, 2, ROW, 2, 3, ROW, 3, 7,
                        LENGTH, 1, 0, LENGTH, 2, 0, LENGTH, 3, 31), 0, 1, 5))
                .edge("empty", check -> dueThrown(check, 3, ops(LENGTH, 1, 0)))
                .edge("a number", check -> dueThrown(check, 4, ops(PUT, 1, 3, LENGTH, 1, 0)))
                .edge("the number 0", check -> dueThrown(check, 4, ops(PUT, 1, 0, LENGTH, 1, 0)));
    }

    private static void rowEdges(Edges edges) {
        edges.sentence("4: number arg / 8 of the row in it becomes the sample before (0 for the first one);")
                .edge("the first number and the last one", BoxEdges::setFirstAndLast)
                .edge("the sample right before, not an earlier one", BoxEdges::setRightBefore)
                .edge("0 for the first one, whatever was decoded before", BoxEdges::setForTheFirst)
                .edge("no sample is told by it", BoxEdges::setTellsNothing);
        edges.sentence("empty: THROWN 3, a number: 4, no such one: 1;")
                .edge("empty", check -> dueThrown(check, 3, ops(SET, 1, 0)))
                .edge("a number", check -> dueThrown(check, 4, ops(PUT, 1, 3, SET, 1, 0)))
                .edge("one behind the last", check -> dueThrown(check, 1, ops(ROW, 1, 7, SET, 1, 5, REFUSE, 0, 0)))
                .edge("far behind the last: arg / 8 is 8 and 31", check -> dueNoSuchOne(check, SET))
                .edge("the first of a row of 0 numbers", check -> dueThrown(check, 1,
                        ops(ROW, 1, 2, SET, 1, 0, REFUSE, 0, 0)))
                .edge("one that a longer row had", check -> dueThrown(check, 1,
                        ops(ROW, 1, 7, ROW, 1, 3, SET, 1, 1, REFUSE, 0, 0)))
                .edge("empty or a number, and no such one", check -> dueKindFirst(check, SET));
        edges.sentence("5: the next sample is number arg / 8 of the row in it; THROWN likewise;")
                .edge("the first number and the last one", BoxEdges::getFirstAndLast)
                .edge("empty", check -> dueThrown(check, 3, ops(GET, 1, 0)))
                .edge("a number", check -> dueThrown(check, 4, ops(PUT, 1, 3, GET, 1, 0)))
                .edge("one behind the last", check -> dueThrown(check, 1, ops(ROW, 1, 7, GET, 1, 5, REFUSE, 0, 0)))
                .edge("far behind the last: arg / 8 is 8 and 31", check -> dueNoSuchOne(check, GET))
                .edge("the first of a row of 0 numbers", check -> dueThrown(check, 1,
                        ops(ROW, 1, 2, GET, 1, 0, REFUSE, 0, 0)))
                .edge("one that a longer row had", check -> dueThrown(check, 1,
                        ops(ROW, 1, 7, ROW, 1, 3, GET, 1, 1, REFUSE, 0, 0)))
                .edge("empty or a number, and no such one", check -> dueKindFirst(check, GET));
    }

    private static void endEdges(Edges edges) {
        edges.sentence("6: the box is empty;")
                .edge("one with a number, one with a row", BoxEdges::emptied)
                .edge("one that is empty", check -> dueFirst(check, ops(EMPTY, 1, 0, EMPTY, 1, 31)))
                .edge("no other one", check -> dueFirst(check,
                        ops(PUT, 0, 5, PUT, 1, 6, PUT, 2, 7, EMPTY, 1, 0, NUMBER, 0, 0, NUMBER, 2, 0), 5, 7))
                .edge("it can get something again", check -> dueFirst(check,
                        ops(PUT, 1, 5, EMPTY, 1, 0, PUT, 1, 6, NUMBER, 1, 0), 6));
        edges.sentence("7: THROWN 6.")
                .edge("the smallest and the largest arg", BoxEdges::refusedByEachArg)
                .edge("before the 16th sample", check -> Codes.dueThrown(check, 3, 6,
                        Check.join(ops(PUT, 6, 9), nines(15), ops(REFUSE, 0, 0))));
        edges.sentence("As long as there are not 16 samples: further; a byte that is not there: THROWN 1.")
                .edge("empty", check -> Codes.dueThrown(check, 3, 1))
                .edge("each op without an arg", BoxEdges::opsWithoutAnArg)
                .edge("15 samples and no more", check -> Codes.dueThrown(check, 3, 1,
                        Check.join(ops(PUT, 6, 9), nines(15))))
                .edge("the 16th without an arg", check -> Codes.dueThrown(check, 3, 1,
                        Check.join(ops(PUT, 6, 9), nines(15), new int[] {NUMBER})))
                .edge("just 16", check -> Codes.dueMade(check, 3,
                        Check.join(ops(PUT, 6, 9), nines(16)), Check.same(9, 16)))
                .edge("full: the 16th by the last of 64 bytes", BoxEdges::allBytesUsed)
                .edge("full: 64 bytes and no sample", check -> Codes.dueThrown(check, 3, 1, new int[64]));
    }

    /** Threes of an op, a box and a number, as the bytes of code 3. */
    private static int[] ops(int... threes) {
        int[] bytes = new int[threes.length / 3 * 2];
        for (int i = 0; i < threes.length / 3; i++) {
            bytes[2 * i] = threes[3 * i];
            bytes[2 * i + 1] = Codes.arg(threes[3 * i + 1], threes[3 * i + 2]);
        }
        return bytes;
    }

    /** So many samples out of box 6. */
    private static int[] nines(int count) {
        int[] bytes = new int[2 * count];
        for (int i = 0; i < count; i++) {
            bytes[2 * i] = NUMBER;
            bytes[2 * i + 1] = Codes.arg(6, 0);
        }
        return bytes;
    }

    /** The first samples; what is missing to 16 follows out of box 6. */
    private static void dueFirst(Check check, int[] data, int... samples) {
        int left = 16 - samples.length;
        Codes.dueMade(check, 3, Check.join(data, ops(PUT, 6, 9), nines(left)),
                Check.join(samples, Check.same(9, left)));
    }

    /** Also where the data would give 16 samples behind it. */
    private static void dueThrown(Check check, int thrown, int[] data) {
        Codes.dueThrown(check, 3, thrown, data);
        Codes.dueThrown(check, 3, thrown, Check.join(data, ops(PUT, 6, 9), nines(16)));
    }

    private static void eachIsEmpty(Check check) {
        for (int box = 0; box < 8; box++) {
            for (int op = NUMBER; op <= GET; op++) {
                dueThrown(check, 3, ops(op, box, 0));
            }
        }
    }

    private static void eachHoldsItsOwn(Check check) {
        int[] put = {};
        int[] read = {};
        for (int box = 0; box < 8; box++) {
            put = Check.join(put, ops(PUT, box, 20 + box));
            read = Check.join(read, ops(NUMBER, box, 0));
        }
        dueFirst(check, Check.join(put, read), Check.rising(20, 8));
    }

    private static void emptyForTheNext(Check check) {
        for (int box = 0; box < 8; box++) {
            MarkRecovery x = Check.ran(0, 99, Check.join(Check.part(0, 1, 3, ops(PUT, box, 5)),
                    Check.part(0, 2, 3, ops(ROW, box, 5)), Check.part(0, 3, 3, ops(NUMBER, box, 0)),
                    Check.part(0, 4, 3, ops(LENGTH, box, 0))));
            check.due("decode(0)", 1, () -> x.decode(0));
            check.due("decode(2)", 3, () -> x.decode(2));
            check.due("decode(1)", 1, () -> x.decode(1));
            check.due("decode(3)", 3, () -> x.decode(3));
        }
    }

    private static void opsWrapAround(Check check) {
        int[] highs = {8, 64, 128, 248};
        for (int high : highs) {
            dueFirst(check, ops(high + PUT, 1, 17, high + NUMBER, 1, 0, high + ROW, 2, 5, high + LENGTH, 2, 0,
                    PUT, 3, 19, NUMBER, 3, 0, high + SET, 2, 1, high + GET, 2, 0, high + GET, 2, 1), 17, 3, 19, 0, 19);
            dueThrown(check, 3, ops(PUT, 1, 1, high + EMPTY, 1, 0, NUMBER, 1, 0));
            dueThrown(check, 6, ops(high + REFUSE, 1, 1));
        }
    }

    private static void argsOfNumbers(Check check) {
        int[] data = {PUT, 0, NUMBER, 0, PUT, 7, NUMBER, 7, PUT, 8, NUMBER, 0, PUT, 248, NUMBER, 0,
            PUT, 255, NUMBER, 7, PUT, 15, NUMBER, 247};
        dueFirst(check, data, 0, 0, 1, 31, 31, 1);
    }

    private static void numberInsteadOf(Check check) {
        dueFirst(check, ops(PUT, 1, 4, PUT, 1, 5, NUMBER, 1, 0), 5);
        dueFirst(check, ops(ROW, 1, 4, PUT, 1, 5, NUMBER, 1, 0), 5);
        dueThrown(check, 4, ops(ROW, 1, 4, PUT, 1, 5, LENGTH, 1, 0));
    }

    private static void rowsWrapAround(Check check) {
        dueFirst(check, ops(ROW, 1, 10, LENGTH, 1, 0, ROW, 1, 15, LENGTH, 1, 0, ROW, 1, 31, LENGTH, 1, 0), 0, 5, 5);
    }

    private static void zeroEach(Check check) {
        dueFirst(check, ops(ROW, 1, 7, GET, 1, 0, GET, 1, 1, GET, 1, 2, GET, 1, 3, GET, 1, 4), 0, 0, 0, 0, 0);
        dueFirst(check, ops(PUT, 0, 30, NUMBER, 0, 0, ROW, 1, 7, SET, 1, 0, SET, 1, 4, ROW, 1, 7,
                GET, 1, 0, GET, 1, 4), 30, 0, 0);
        dueFirst(check, ops(PUT, 0, 30, NUMBER, 0, 0, ROW, 1, 7, SET, 1, 0, EMPTY, 1, 0, ROW, 1, 3,
                GET, 1, 0), 30, 0);
    }

    private static void rowInsteadOf(Check check) {
        dueFirst(check, ops(PUT, 1, 4, ROW, 1, 5, LENGTH, 1, 0), 3);
        dueFirst(check, ops(ROW, 1, 7, ROW, 1, 4, LENGTH, 1, 0), 2);
        dueFirst(check, ops(ROW, 1, 3, ROW, 1, 7, GET, 1, 4), 0);
        dueThrown(check, 4, ops(PUT, 1, 4, ROW, 1, 5, NUMBER, 1, 0));
    }

    private static void rowsBelowZero(Check check) {
        dueThrown(check, 5, ops(ROW, 1, 0));
        dueThrown(check, 5, ops(ROW, 1, 1));
    }

    private static void rowsBelowZeroWrapAround(Check check) {
        int[] numbers = {8, 9, 24, 25};
        for (int number : numbers) {
            dueThrown(check, 5, ops(ROW, 7, number));
        }
    }

    private static void rowsBelowZeroInsteadOf(Check check) {
        dueThrown(check, 5, ops(PUT, 1, 3, ROW, 1, 1));
        dueThrown(check, 5, ops(ROW, 1, 3, ROW, 1, 1));
    }

    private static void setFirstAndLast(Check check) {
        dueFirst(check, ops(PUT, 0, 19, NUMBER, 0, 0, ROW, 1, 7, SET, 1, 0, SET, 1, 4,
                GET, 1, 0, GET, 1, 4, GET, 1, 3), 19, 19, 19, 0);
        dueFirst(check, ops(PUT, 0, 19, NUMBER, 0, 0, ROW, 1, 3, SET, 1, 0, GET, 1, 0), 19, 19);
    }

    private static void setRightBefore(Check check) {
        dueFirst(check, ops(PUT, 0, 19, NUMBER, 0, 0, PUT, 0, 7, NUMBER, 0, 0, PUT, 0, 25, ROW, 1, 3,
                SET, 1, 0, GET, 1, 0), 19, 7, 7);
    }

    private static void setForTheFirst(Check check) {
        int[] data = Check.join(ops(ROW, 1, 3, SET, 1, 0, GET, 1, 0, PUT, 6, 9), nines(15));
        MarkRecovery x = Check.ran(0, 99, Check.join(Check.part(0, 1, 1, 16, 200), Check.part(0, 2, 3, data)));
        check.due("decode(0)", 0, () -> x.decode(0));
        check.due("decode(1)", 0, () -> x.decode(1));
        check.dueSamples(x, 32, 1, Check.join(new int[1], Check.same(9, 15)));
    }

    private static void setTellsNothing(Check check) {
        Codes.dueThrown(check, 3, 1, Check.join(ops(ROW, 1, 3, PUT, 6, 9), nines(15), ops(SET, 1, 0)));
        dueFirst(check, ops(ROW, 1, 3, SET, 1, 0, SET, 1, 0, SET, 1, 0));
    }

    /** The number of the row is not taken modulo 8. */
    private static void dueNoSuchOne(Check check, int op) {
        dueThrown(check, 1, ops(ROW, 1, 7, op, 1, 8, REFUSE, 0, 0));
        dueThrown(check, 1, ops(ROW, 1, 7, op, 1, 31, REFUSE, 0, 0));
    }

    private static void dueKindFirst(Check check, int op) {
        dueThrown(check, 3, ops(op, 1, 31));
        dueThrown(check, 4, ops(PUT, 1, 3, op, 1, 31));
    }

    private static void getFirstAndLast(Check check) {
        dueFirst(check, ops(PUT, 0, 19, NUMBER, 0, 0, ROW, 1, 7, SET, 1, 4, GET, 1, 0, GET, 1, 4), 19, 0, 19);
        dueFirst(check, ops(ROW, 1, 3, GET, 1, 0), 0);
    }

    private static void emptied(Check check) {
        dueThrown(check, 3, ops(PUT, 1, 5, EMPTY, 1, 0, NUMBER, 1, 0));
        dueThrown(check, 3, ops(ROW, 1, 5, EMPTY, 1, 31, LENGTH, 1, 0));
        dueThrown(check, 3, ops(ROW, 1, 5, EMPTY, 1, 0, SET, 1, 0));
        dueThrown(check, 3, ops(ROW, 1, 5, EMPTY, 1, 0, GET, 1, 0));
    }

    private static void refusedByEachArg(Check check) {
        dueThrown(check, 6, new int[] {REFUSE, 0});
        dueThrown(check, 6, new int[] {REFUSE, 255});
    }

    private static void opsWithoutAnArg(Check check) {
        for (int op = PUT; op <= REFUSE; op++) {
            Codes.dueThrown(check, 3, 1, op);
            Codes.dueThrown(check, 3, 1, Check.join(ops(PUT, 1, 1, EMPTY, 1, 0), new int[] {op}));
        }
    }

    private static void allBytesUsed(Check check) {
        int[] data = {};
        for (int i = 0; i < 16; i++) {
            data = Check.join(data, ops(PUT, i % 8, 10 + i, NUMBER, i % 8, 0));
        }
        Codes.dueMade(check, 3, data, Check.rising(10, 16));
    }
}
