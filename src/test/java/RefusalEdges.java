/** Terms: the last paragraph, on what is thrown. */
final class RefusalEdges {
    private static final int[] OUTSIDE = {-1, Integer.MIN_VALUE, Integer.MAX_VALUE};
    private static final Class<IndexOutOfBoundsException> NO_INDEX = IndexOutOfBoundsException.class;
    private static final Class<IllegalStateException> NO_STATE = IllegalStateException.class;
    private static final Class<IllegalArgumentException> NO_ARGUMENT = IllegalArgumentException.class;
    private static final Class<UnsupportedOperationException> NO_ROOM = UnsupportedOperationException.class;

    private RefusalEdges() {
    }

    static void all(Edges edges) {
        edges.sentence("IndexOutOfBounds: there is no such byte, PART or sample.")
                .edge("empty: no byte at all", RefusalEdges::noByteAtAll)
                .edge("the first and the last byte, and those beside", RefusalEdges::bytesAtTheEnds)
                .edge("full: byte 1,199 and byte 1,200", RefusalEdges::bytesOfAFullObject)
                .edge("empty: no part at all", RefusalEdges::noPartAtAll)
                .edge("the first and the last part, and those beside", RefusalEdges::partsAtTheEnds)
                .edge("full: part 15 and part 16", RefusalEdges::partsOfAFullRun)
                .edge("fewer parts than in the run before", RefusalEdges::fewerPartsThanBefore)
                .edge("the first and the last sample, and those beside", RefusalEdges::samplesAtTheEnds);
        edges.sentence("IllegalState: nothing was run")
                .edge("a new object, empty or fed", RefusalEdges::nothingWasRun)
                .edge("a run of nothing is a run", RefusalEdges::runOfNothing)
                .edge("behind clear()", RefusalEdges::stateBehindClear);
        edges.sentence("(when bytes are fed or altered, PARTS are gone, samples stay as they are till the next run).")
                .edge("fed", check -> dueGone(check, x -> x.feed(0, 1)))
                .edge("altered", check -> dueGone(check, x -> x.alter(0, 1)))
                .edge("altered to what it was", check -> dueGone(check, x -> x.alter(0, 255)))
                .edge("till the next run", RefusalEdges::tillTheNextRun);
        edges.sentence("IllegalArgument: another number is none that is told.")
                .edge("how many bytes: 0, 1, 8 and 9", RefusalEdges::numbersOfBytes)
                .edge("a byte: -1, 0, 255 and 256", RefusalEdges::bytesToAlter)
                .edge("a rule: -1, 0, 2 and 3", RefusalEdges::rules);
        edges.sentence("UnsupportedOperation: there is no room.")
                .edge("full", RefusalEdges::noRoomAtAll)
                .edge("room for each n, and for one fewer", RefusalEdges::roomForEachN);
        edges.sentence("Of several that a call names, the first one.")
                .edge("feed: a wrong number before no room", RefusalEdges::firstOfFeed)
                .edge("alter: no such byte before a wrong byte", RefusalEdges::firstOfAlter)
                .edge("part: nothing run before no such part", RefusalEdges::firstOfPart)
                .edge("decode: nothing run before no such part", RefusalEdges::firstOfDecode);
        unchangedEdges(edges);
    }

    private static void unchangedEdges(Edges edges) {
        edges.sentence("A call that throws changes nothing.")
                .edge("feed of a wrong number", RefusalEdges::feedOfAWrongNumber)
                .edge("feed without room", RefusalEdges::feedWithoutRoom)
                .edge("alter of no such byte", RefusalEdges::alterOfNoSuchByte)
                .edge("alter to a wrong byte", RefusalEdges::alterToAWrongByte)
                .edge("part, decode and decodeAll without a run", RefusalEdges::partsWithoutARun)
                .edge("part and decode of no such part", RefusalEdges::noSuchPart)
                .edge("at and state of no such sample", RefusalEdges::noSuchSample)
                .edge("fill by a wrong rule", RefusalEdges::wrongRule);
    }

    private static void noByteAtAll(Check check) {
        MarkRecovery x = new MarkRecovery(0, 9);
        check.dueThrow("alter(0, 0)", NO_INDEX, () -> x.alter(0, 0));
    }

    private static void bytesAtTheEnds(Check check) {
        MarkRecovery x = Check.fed(0, 9, new int[] {4, 5, 6});
        check.due("alter(0, 1)", 4, () -> x.alter(0, 1));
        check.due("alter(2, 1)", 6, () -> x.alter(2, 1));
        check.dueThrow("alter(3, 1)", NO_INDEX, () -> x.alter(3, 1));
        for (int i : OUTSIDE) {
            check.dueThrow("alter(" + i + ", 1)", NO_INDEX, () -> x.alter(i, 1));
        }
    }

    private static void bytesOfAFullObject(Check check) {
        MarkRecovery x = Check.fed(0, 9, Check.full(4));
        check.due("alter(1199, 1)", 4, () -> x.alter(1199, 1));
        check.dueThrow("alter(1200, 1)", NO_INDEX, () -> x.alter(1200, 1));
    }

    private static void noPartAtAll(Check check) {
        MarkRecovery x = Check.ran(0, 9, 1, 2, 3);
        check.dueThrow("part(0, 0)", NO_INDEX, () -> x.part(0, 0));
        check.dueThrow("decode(0)", NO_INDEX, () -> x.decode(0));
        check.due("decodeAll()", 0, x::decodeAll);
    }

    private static MarkRecovery withParts(int count) {
        MarkRecovery x = new MarkRecovery(0, 99);
        for (int i = 0; i < count; i++) {
            Check.feed(x, Check.part(0, i % 16, 1, 16, i));
        }
        x.run();
        return x;
    }

    private static void partsAtTheEnds(Check check) {
        MarkRecovery x = withParts(2);
        check.due("part(0, 0)", 0, () -> x.part(0, 0));
        check.due("part(1, 0)", 8, () -> x.part(1, 0));
        check.due("decode(0)", 0, () -> x.decode(0));
        check.due("decode(1)", 0, () -> x.decode(1));
        check.dueThrow("part(2, 0)", NO_INDEX, () -> x.part(2, 0));
        check.dueThrow("decode(2)", NO_INDEX, () -> x.decode(2));
        for (int k : OUTSIDE) {
            check.dueThrow("part(" + k + ", 0)", NO_INDEX, () -> x.part(k, 0));
            check.dueThrow("part(" + k + ", 9)", NO_INDEX, () -> x.part(k, 9));
            check.dueThrow("decode(" + k + ")", NO_INDEX, () -> x.decode(k));
        }
    }

    private static void partsOfAFullRun(Check check) {
        MarkRecovery x = withParts(17);
        check.due("part(15, 1)", 15, () -> x.part(15, 1));
        check.due("decode(15)", 0, () -> x.decode(15));
        check.dueThrow("part(16, 1)", NO_INDEX, () -> x.part(16, 1));
        check.dueThrow("decode(16)", NO_INDEX, () -> x.decode(16));
    }

    private static void fewerPartsThanBefore(Check check) {
        MarkRecovery x = withParts(2);
        x.alter(0, 0);
        check.due("run()", 1, x::run);
        check.dueThrow("part(1, 0)", NO_INDEX, () -> x.part(1, 0));
        check.dueThrow("decode(1)", NO_INDEX, () -> x.decode(1));
    }

    private static void samplesAtTheEnds(Check check) {
        MarkRecovery x = new MarkRecovery(0, 9);
        for (int run = 0; run < 2; run++) {
            check.due("at(0)", -1, () -> x.at(0));
            check.due("at(255)", -1, () -> x.at(255));
            check.dueThrow("at(256)", NO_INDEX, () -> x.at(256));
            check.dueThrow("state(256)", NO_INDEX, () -> x.state(256));
            for (int i : OUTSIDE) {
                check.dueThrow("at(" + i + ")", NO_INDEX, () -> x.at(i));
                check.dueThrow("state(" + i + ")", NO_INDEX, () -> x.state(i));
            }
            x.run();
        }
    }

    private static void dueNothingRun(Check check, MarkRecovery x) {
        check.dueThrow("part(0, 0)", NO_STATE, () -> x.part(0, 0));
        check.dueThrow("part(0, 9)", NO_STATE, () -> x.part(0, 9));
        check.dueThrow("decode(0)", NO_STATE, () -> x.decode(0));
        check.dueThrow("decodeAll()", NO_STATE, x::decodeAll);
    }

    private static void nothingWasRun(Check check) {
        dueNothingRun(check, new MarkRecovery(0, 9));
        dueNothingRun(check, Check.fed(0, 9, Check.part(0, 3, 1, 16, 5)));
    }

    private static void runOfNothing(Check check) {
        MarkRecovery x = new MarkRecovery(0, 9);
        check.due("run()", 0, x::run);
        check.due("decodeAll()", 0, x::decodeAll);
        check.dueThrow("part(0, 0)", NO_INDEX, () -> x.part(0, 0));
        check.dueThrow("decode(0)", NO_INDEX, () -> x.decode(0));
    }

    private static void stateBehindClear(Check check) {
        MarkRecovery x = withParts(2);
        x.clear();
        dueNothingRun(check, x);
        check.due("run()", 0, x::run);
        check.due("decodeAll()", 0, x::decodeAll);
    }

    /** Part 0 is sure, part 1 is guessed, all else is filled. */
    private static MarkRecovery decodedAndFilled() {
        MarkRecovery x = Check.ran(0, 99, Check.join(Check.part(0, 3, 1, 16, 5), Check.broken(0, 16, 6)));
        x.decodeAll();
        x.fill(1);
        return x;
    }

    private static void dueGone(Check check, Twins.Call call) {
        MarkRecovery x = decodedAndFilled();
        call.of(x);
        dueNothingRun(check, x);
        check.due("told(3)", 0, () -> x.told(3));
        check.dueSamples(x, 0, 3, Check.same(255, 48));
        check.dueSamples(x, 48, 1, Check.same(5, 16));
        check.dueSamples(x, 64, 2, Check.same(6, 16));
        check.dueSamples(x, 80, 3, Check.same(255, 176));
        check.due("told(8)", 16, () -> x.told(8));
    }

    private static void tillTheNextRun(Check check) {
        MarkRecovery x = decodedAndFilled();
        x.feed(0, 1);
        check.due("run()", 2, x::run);
        check.dueSamples(x, 0, 0, Check.same(-1, 256));
        check.duePart(x, 0, 0, 3, 1, 2, 0, -1);
    }

    private static void numbersOfBytes(Check check) {
        MarkRecovery x = new MarkRecovery(0, 9);
        check.dueThrow("feed(1, 0)", NO_ARGUMENT, () -> x.feed(1, 0));
        check.dueThrow("feed(1, 9)", NO_ARGUMENT, () -> x.feed(1, 9));
        for (int n : OUTSIDE) {
            check.dueThrow("feed(1, " + n + ")", NO_ARGUMENT, () -> x.feed(1, n));
        }
        check.due("feed(1, 1)", 1, () -> x.feed(1, 1));
        check.due("feed(1, 8)", 9, () -> x.feed(1, 8));
    }

    private static void bytesToAlter(Check check) {
        MarkRecovery x = Check.fed(0, 9, new int[] {4});
        check.dueThrow("alter(0, 256)", NO_ARGUMENT, () -> x.alter(0, 256));
        for (int b : OUTSIDE) {
            check.dueThrow("alter(0, " + b + ")", NO_ARGUMENT, () -> x.alter(0, b));
        }
        check.due("alter(0, 0)", 4, () -> x.alter(0, 0));
        check.due("alter(0, 255)", 0, () -> x.alter(0, 255));
        check.due("alter(0, 1)", 255, () -> x.alter(0, 1));
    }

    private static void rules(Check check) {
        MarkRecovery x = new MarkRecovery(0, 9);
        check.dueThrow("fill(3)", NO_ARGUMENT, () -> x.fill(3));
        for (int rule : OUTSIDE) {
            check.dueThrow("fill(" + rule + ")", NO_ARGUMENT, () -> x.fill(rule));
        }
        check.due("fill(0)", 256, () -> x.fill(0));
        check.due("fill(2)", 256, () -> x.fill(2));
    }

    private static void noRoomAtAll(Check check) {
        MarkRecovery x = Check.fed(0, 9, new int[1200]);
        for (int n = 1; n <= 8; n++) {
            int length = n;
            check.dueThrow("feed(1, " + n + ")", NO_ROOM, () -> x.feed(1, length));
        }
    }

    private static void roomForEachN(Check check) {
        for (int n = 1; n <= 8; n++) {
            int length = n;
            MarkRecovery just = Check.fed(0, 9, new int[1200 - n]);
            check.due("feed(1, " + n + ")", 1200, () -> just.feed(1, length));
            MarkRecovery fewer = Check.fed(0, 9, new int[1201 - n]);
            check.dueThrow("feed(1, " + n + ")", NO_ROOM, () -> fewer.feed(1, length));
        }
    }

    private static void firstOfFeed(Check check) {
        MarkRecovery x = Check.fed(0, 9, new int[1200]);
        check.dueThrow("feed(1, 0)", NO_ARGUMENT, () -> x.feed(1, 0));
        check.dueThrow("feed(1, 9)", NO_ARGUMENT, () -> x.feed(1, 9));
        check.dueThrow("feed(1, large)", NO_ARGUMENT, () -> x.feed(1, Integer.MAX_VALUE));
    }

    private static void firstOfAlter(Check check) {
        MarkRecovery x = Check.fed(0, 9, new int[3]);
        check.dueThrow("alter(-1, -1)", NO_INDEX, () -> x.alter(-1, -1));
        check.dueThrow("alter(3, 256)", NO_INDEX, () -> x.alter(3, 256));
    }

    private static void firstOfPart(Check check) {
        MarkRecovery x = Check.fed(0, 9, Check.part(0, 3, 1));
        check.dueThrow("part(-1, 0)", NO_STATE, () -> x.part(-1, 0));
        check.dueThrow("part(16, 9)", NO_STATE, () -> x.part(16, 9));
    }

    private static void firstOfDecode(Check check) {
        MarkRecovery x = Check.fed(0, 9, Check.part(0, 3, 1));
        check.dueThrow("decode(-1)", NO_STATE, () -> x.decode(-1));
        check.dueThrow("decode(16)", NO_STATE, () -> x.decode(16));
    }

    /** Part 0 is sure, part 1 is guessed, part 2 throws; 52 bytes, then zeros till there is so much room. */
    private static MarkRecovery withRoomFor(int left) {
        int[] parts = Check.join(Check.part(0, 3, 0, Check.rising(10, 16)), Check.broken(0, Check.rising(30, 16)),
                Check.part(0, 9, 1, 17, 5));
        MarkRecovery x = Check.ran(0, 1000, Check.join(parts, new int[1200 - parts.length - left]));
        x.decodeAll();
        return x;
    }

    /** The same with 52 bytes alone, and with no sample left that is nothing. */
    private static MarkRecovery busy() {
        MarkRecovery x = withRoomFor(1148);
        x.fill(2);
        return x;
    }

    /** Its parts are gone; its samples are there. */
    private static MarkRecovery notRun() {
        MarkRecovery x = busy();
        x.feed(0x0102, 2);
        return x;
    }

    private static void feedOfAWrongNumber(Check check) {
        int[] wrong = {0, -1, 9, Integer.MIN_VALUE, Integer.MAX_VALUE};
        for (int n : wrong) {
            Twins.dueUnchanged(check, "feed(-1, " + n + ")", NO_ARGUMENT, RefusalEdges::busy, x -> x.feed(-1, n));
        }
    }

    private static void feedWithoutRoom(Check check) {
        Twins.dueUnchanged(check, "feed(-1, 1)", NO_ROOM, () -> withRoomFor(0), x -> x.feed(-1, 1));
        Twins.dueUnchanged(check, "feed(-1, 8)", NO_ROOM, () -> withRoomFor(7), x -> x.feed(-1, 8));
        Twins.dueUnchanged(check, "feed(-1, 2)", NO_ROOM, () -> withRoomFor(1), x -> x.feed(-1, 2));
    }

    private static void alterOfNoSuchByte(Check check) {
        int[] wrong = {-1, 52, 1200, Integer.MIN_VALUE, Integer.MAX_VALUE};
        for (int i : wrong) {
            Twins.dueUnchanged(check, "alter(" + i + ", 7)", NO_INDEX, RefusalEdges::busy, x -> x.alter(i, 7));
        }
    }

    private static void alterToAWrongByte(Check check) {
        int[] wrong = {-1, 256, Integer.MIN_VALUE, Integer.MAX_VALUE};
        for (int b : wrong) {
            Twins.dueUnchanged(check, "alter(6, " + b + ")", NO_ARGUMENT, RefusalEdges::busy, x -> x.alter(6, b));
        }
    }

    private static void partsWithoutARun(Check check) {
        Twins.dueUnchanged(check, "part(0, 0)", NO_STATE, RefusalEdges::notRun, x -> x.part(0, 0));
        Twins.dueUnchanged(check, "decode(0)", NO_STATE, RefusalEdges::notRun, x -> x.decode(0));
        Twins.dueUnchanged(check, "decodeAll()", NO_STATE, RefusalEdges::notRun, MarkRecovery::decodeAll);
    }

    private static void noSuchPart(Check check) {
        int[] wrong = {-1, 3, 16};
        for (int k : wrong) {
            Twins.dueUnchanged(check, "part(" + k + ", 5)", NO_INDEX, RefusalEdges::busy, x -> x.part(k, 5));
            Twins.dueUnchanged(check, "decode(" + k + ")", NO_INDEX, RefusalEdges::busy, x -> x.decode(k));
        }
    }

    private static void noSuchSample(Check check) {
        int[] wrong = {-1, 256};
        for (int i : wrong) {
            Twins.dueUnchanged(check, "at(" + i + ")", NO_INDEX, RefusalEdges::busy, x -> x.at(i));
            Twins.dueUnchanged(check, "state(" + i + ")", NO_INDEX, RefusalEdges::busy, x -> x.state(i));
        }
    }

    private static void wrongRule(Check check) {
        int[] wrong = {-1, 3};
        for (int rule : wrong) {
            Twins.dueUnchanged(check, "fill(" + rule + ")", NO_ARGUMENT, RefusalEdges::busy, x -> x.fill(rule));
            Twins.dueUnchanged(check, "fill(" + rule + ")", NO_ARGUMENT, () -> withRoomFor(1000), x -> x.fill(rule));
        }
    }
}
