/** Promises 1 to 10 and 12, and how long an object is used. */
final class PromiseEdges {
    private PromiseEdges() {
    }

    static void all(Edges edges) {
        edges.sentence("An object is used for at most 512 calls after it has been made;"
                        + " what later calls answer is free.")
                .edge("full: the 512th call answers", PromiseEdges::theLastCall);
        edges.sentence("KIND and STEPS, the nearest of 0 .. 2 and 1 .. 65536.")
                .edge("kinds: too small, the least, the largest, too large", PromiseEdges::kinds)
                .edge("steps: too small, the least, the largest, too large", PromiseEdges::steps)
                .edge("a kind too small or too large searches by the nearest", PromiseEdges::nearestKindSearches)
                .edge("steps too small or too large are the nearest", PromiseEdges::nearestStepsCount);
        edges.sentence("Bytes more, n of them, 1 .. 8, the lowest one of a number first: how many there are.")
                .edge("each n, and no byte more", PromiseEdges::eachNumberOfBytes)
                .edge("too few: 0; too many: 9", PromiseEdges::wrongNumbersOfBytes)
                .edge("numbers below 0", PromiseEdges::numbersBelowZero)
                .edge("from the first byte to the 1,200th", PromiseEdges::countsToFull);
        edges.sentence("A byte becomes another one: what it was.")
                .edge("the first and the last one, 0 and 255", PromiseEdges::alterEnds)
                .edge("the bytes beside stay", PromiseEdges::alterAlone)
                .edge("what it becomes is searched and decoded", PromiseEdges::alteredIsUsed);
        edges.sentence("RUN: how many PARTS there are.")
                .edge("empty: 0", PromiseEdges::runOfNothing)
                .edge("1 and full: 16", PromiseEdges::runOfParts)
                .edge("again: the same", PromiseEdges::runAgain);
        edges.sentence("All samples are untold then.")
                .edge("those that were sure, guessed and filled", PromiseEdges::samplesUntold)
                .edge("also if nothing was found", PromiseEdges::samplesUntoldByNothing);
        partEdges(edges);
        decodeEdges(edges);
        sampleEdges(edges);
    }

    private static void partEdges(Edges edges) {
        edges.sentence("Of a PART where its HEAD begins (what = 0), its NUMBER (1), CODE (2), SIZE"
                        + " (3; of a GUESSED one how many DATA it has), 1 if it was GUESSED (4),")
                .edge("the least of each", PromiseEdges::leastPart)
                .edge("the largest of each", PromiseEdges::largestPart)
                .edge("a guessed one: not what its head says", PromiseEdges::guessedPart)
                .edge("a guessed one with 0 and with 64 data", PromiseEdges::guessedSizes);
        edges.sentence("what was THROWN when it was decoded latest: 0 nothing, NONE if it was not (5);")
                .edge("not decoded, decoded, decoded again", PromiseEdges::thrownLatest)
                .edge("each one for itself", PromiseEdges::thrownByEach)
                .edge("not decoded since another run", PromiseEdges::thrownBeforeTheRun);
        edges.sentence("NONE if it was not (5); NONE for another what.")
                .edge("too small: -1; too large: 6", PromiseEdges::otherWhats);
    }

    private static void decodeEdges(Edges edges) {
        edges.sentence("DECODES a PART: 0, or what was THROWN.")
                .edge("0 and each number that is thrown", PromiseEdges::decodeAnswers)
                .edge("again: the same, and counted again", PromiseEdges::decodeAgain)
                .edge("no other part", PromiseEdges::decodesOneAlone);
        edges.sentence("All PARTS, in order: of how many something was THROWN.")
                .edge("empty: no parts", PromiseEdges::decodeAllOfNothing)
                .edge("none, one and all of 16 throw", PromiseEdges::decodeAllOfSixteen)
                .edge("the later one of a row counts", PromiseEdges::decodeAllInOrder)
                .edge("one that throws does not end it", PromiseEdges::decodeAllGoesOn);
    }

    private static void sampleEdges(Edges edges) {
        edges.sentence("A sample's value; NONE if it has none.")
                .edge("none, 0 and 255", PromiseEdges::valuesAtTheEnds)
                .edge("too small: -1; too large: 256", PromiseEdges::noSuchSample);
        edges.sentence("What a sample is: 0 nothing, 1 SURE, 2 GUESSED, 3 FILLED.")
                .edge("each of the four", PromiseEdges::fourStates)
                .edge("filled, then told", PromiseEdges::filledThenTold)
                .edge("too small: -1; too large: 256", PromiseEdges::noSuchSample);
        edges.sentence("FILLS by a rule 0 .. 2, also what was FILLED before: how many samples. IllegalArgument.")
                .edge("each rule behind each", PromiseEdges::eachRuleBehindEach)
                .edge("too small: -1; too large: 3", PromiseEdges::wrongRules)
                .edge("empty: all are told, none is filled", PromiseEdges::nothingToFill);
        edges.sentence("No bytes, no PARTS, no samples.")
                .edge("empty: of a new object", PromiseEdges::clearNothing)
                .edge("all that there was is gone", PromiseEdges::clearAll)
                .edge("full: there is room for 1,200 again", PromiseEdges::clearFull)
                .edge("no part before is left for a guess", PromiseEdges::clearedPartIsNotBefore);
    }

    private static void theLastCall(Check check) {
        // Code 3 with 64 data that give two samples alone: the dearest decoding that there is.
        int[] data = Check.join(new int[] {0, 8, 2, 0, 2, 0}, new int[58]);
        int[] bytes = {};
        for (int i = 0; i < 16; i++) {
            bytes = Check.join(bytes, Check.part(0, i, 3, data));
        }
        MarkRecovery x = Check.fed(0, 65536, bytes, new int[1200 - bytes.length]);
        int calls = 150;
        for (int i = 0; i < 120; i++) {
            check.due("run() " + i, 16, x::run);
            check.due("decodeAll() " + i, 16, x::decodeAll);
            check.due("fill(0) " + i, 256, () -> x.fill(0));
            calls += 3;
        }
        check.due("at(255)", 128, () -> x.at(255));
        check.due("the 512th call, told(6)", 16 * 120, () -> x.told(6));
        int made = calls + 2;
        check.due("calls", 512, () -> made);
    }

    private static void kinds(Check check) {
        int[][] kinds = {{0, 0}, {1, 1}, {2, 2}, {-1, 0}, {3, 2},
            {Integer.MIN_VALUE, 0}, {Integer.MAX_VALUE, 2}};
        for (int[] kind : kinds) {
            MarkRecovery x = new MarkRecovery(kind[0], 9);
            check.due("told(0) of kind " + kind[0], kind[1], () -> x.told(0));
        }
    }

    private static void steps(Check check) {
        int[][] steps = {{1, 1}, {2, 2}, {0, 1}, {-1, 1}, {65535, 65535}, {65536, 65536}, {65537, 65536},
            {Integer.MIN_VALUE, 1}, {Integer.MAX_VALUE, 65536}};
        for (int[] step : steps) {
            MarkRecovery x = new MarkRecovery(0, step[0]);
            check.due("told(1) of steps " + step[0], step[1], () -> x.told(1));
        }
    }

    private static void nearestKindSearches(Check check) {
        check.dueRun(Check.fed(-1, 9, Check.part(0, 3, 1, 7)), 1, 1);
        check.dueRun(Check.fed(3, 9, Check.part(2, 3, 1, 7)), 1, 1);
    }

    private static void nearestStepsCount(Check check) {
        check.dueRun(Check.fed(0, 0, new int[5]), 0, 1);
        check.dueRun(Check.fed(0, Integer.MIN_VALUE, new int[5]), 0, 1);
        check.dueRun(Check.fed(0, Integer.MAX_VALUE, new int[1200]), 0, 1200);
    }

    private static void eachNumberOfBytes(Check check) {
        int[] bytes = {0x11, 0x92, 0x33, 0xB4, 0x55, 0xD6, 0x77, 0xF8};
        for (int n = 1; n <= 8; n++) {
            int length = n;
            MarkRecovery x = Check.fed(0, 9, new int[3]);
            check.due("feed of " + n, 3 + n, () -> x.feed(0xF877D655B4339211L, length));
            check.due("told(2)", 3 + n, () -> x.told(2));
            for (int i = 0; i < n; i++) {
                int place = 3 + i;
                check.due("byte " + i + " of " + n, bytes[i], () -> x.alter(place, 0));
            }
            check.dueThrow("no more", IndexOutOfBoundsException.class, () -> x.alter(3 + length, 0));
        }
    }

    private static void wrongNumbersOfBytes(Check check) {
        MarkRecovery x = new MarkRecovery(0, 9);
        int[] wrong = {0, -1, 9, Integer.MIN_VALUE, Integer.MAX_VALUE};
        for (int n : wrong) {
            check.dueThrow("feed(5, " + n + ")", IllegalArgumentException.class, () -> x.feed(5, n));
        }
        check.due("told(2)", 0, () -> x.told(2));
    }

    private static void numbersBelowZero(Check check) {
        MarkRecovery x = new MarkRecovery(0, 9);
        check.due("feed(-1, 8)", 8, () -> x.feed(-1, 8));
        check.due("feed(-1, 1)", 9, () -> x.feed(-1, 1));
        check.due("feed(least, 8)", 17, () -> x.feed(Long.MIN_VALUE, 8));
        check.due("byte 0", 255, () -> x.alter(0, 0));
        check.due("byte 7", 255, () -> x.alter(7, 0));
        check.due("byte 8", 255, () -> x.alter(8, 0));
        check.due("byte 15", 0, () -> x.alter(15, 1));
        check.due("byte 16", 128, () -> x.alter(16, 0));
    }

    private static void countsToFull(Check check) {
        MarkRecovery x = new MarkRecovery(0, 9);
        check.due("the first", 1, () -> x.feed(5, 1));
        for (int fed = 1; fed < 1193; fed += 8) {
            check.due("feed behind " + fed, fed + 8, () -> x.feed(5, 8));
        }
        check.due("the last", 1200, () -> x.feed(5, 7));
    }

    private static void alterEnds(Check check) {
        MarkRecovery x = Check.fed(0, 9, Check.full(9));
        check.due("the first", 0, () -> x.alter(0, 255));
        check.due("the first again", 255, () -> x.alter(0, 0));
        check.due("the first once more", 0, () -> x.alter(0, 0));
        check.due("the last", 9, () -> x.alter(1199, 255));
        check.due("the last again", 255, () -> x.alter(1199, 1));
        check.due("told(2)", 1200, () -> x.told(2));
    }

    private static void alterAlone(Check check) {
        MarkRecovery x = Check.fed(0, 9, new int[] {4, 5, 6});
        check.due("alter(1, 255)", 5, () -> x.alter(1, 255));
        check.due("the byte before", 4, () -> x.alter(0, 0));
        check.due("the byte behind", 6, () -> x.alter(2, 0));
        check.due("the byte itself", 255, () -> x.alter(1, 0));
    }

    private static void alteredIsUsed(Check check) {
        MarkRecovery x = Check.fed(0, 9, Check.part(0, 3, 1, 17, 5));
        check.due("alter of n", 17, () -> x.alter(6, 16));
        check.due("run()", 1, x::run);
        check.due("decode(0)", 0, () -> x.decode(0));
        check.dueSamples(x, 48, 1, Check.same(5, 16));
    }

    private static void runOfNothing(Check check) {
        check.dueRun(new MarkRecovery(0, 9), 0, 0);
        check.dueRun(Check.fed(0, 9, new int[] {255, 217}), 0, 2);
    }

    /** Rows from 0 on, told by code 1 with these counts: by 16 nothing is thrown. */
    private static MarkRecovery byCounts(int... counts) {
        MarkRecovery x = new MarkRecovery(0, 99);
        for (int i = 0; i < counts.length; i++) {
            Check.feed(x, Check.part(0, i % 16, 1, counts[i], 10 + i));
        }
        x.run();
        return x;
    }

    private static void runOfParts(Check check) {
        check.dueRun(byCounts(16), 1, 1);
        check.dueRun(byCounts(Check.same(16, 16)), 16, 16);
        check.dueRun(byCounts(Check.same(16, 17)), 16, 16);
    }

    private static void runAgain(Check check) {
        MarkRecovery x = byCounts(16, 16);
        check.dueRun(x, 2, 2);
        check.dueRun(x, 2, 2);
        check.duePart(x, 1, 8, 1, 1, 2, 0, -1);
    }

    /** Row 3 is sure, row 4 guessed, all else filled. */
    private static MarkRecovery ofAllStates() {
        MarkRecovery x = Check.ran(0, 99, Check.join(Check.part(0, 3, 1, 16, 0), Check.broken(0, 16, 255)));
        x.decodeAll();
        x.fill(0);
        return x;
    }

    private static void samplesUntold(Check check) {
        MarkRecovery x = ofAllStates();
        check.due("run()", 2, x::run);
        check.dueSamples(x, 0, 0, Check.same(-1, 256));
        check.dueSamples(x, 48, 0, Check.same(-1, 32));
        check.due("fill(1)", 256, () -> x.fill(1));
    }

    private static void samplesUntoldByNothing(Check check) {
        MarkRecovery x = ofAllStates();
        x.alter(0, 0);
        x.alter(8, 0);
        check.due("run()", 0, x::run);
        check.dueSamples(x, 0, 0, Check.same(-1, 256));
        check.dueSamples(x, 48, 0, Check.same(-1, 32));
    }

    private static void leastPart(Check check) {
        check.duePart(Check.ran(0, 9, Check.part(0, 0, 0)), 0, 0, 0, 0, 0, 0, -1);
    }

    private static void largestPart(Check check) {
        MarkRecovery x = Check.ran(0, 65536, Check.full(Check.part(0, 15, 4, new int[64])));
        check.duePart(x, 0, 1130, 15, 4, 64, 0, -1);
        MarkRecovery last = Check.ran(0, 65536, Check.full(Check.part(0, 15, 4)));
        check.duePart(last, 0, 1194, 15, 4, 0, 0, -1);
    }

    private static void guessedPart(Check check) {
        MarkRecovery x = Check.ran(0, 99, Check.join(Check.part(0, 3, 2), new int[] {255, 217, 11, 4, 60, 0, 8, 9}));
        check.duePart(x, 0, 0, 3, 2, 0, 0, -1);
        check.duePart(x, 1, 6, 4, 2, 2, 1, -1);
    }

    private static void guessedSizes(Check check) {
        MarkRecovery none = Check.ran(0, 99, Check.join(Check.part(0, 3, 2), Check.broken(0)));
        check.due("part(1, 3)", 0, () -> none.part(1, 3));
        check.due("decode(1)", 1, () -> none.decode(1));
        MarkRecovery most = Check.ran(0, 99, Check.join(Check.part(0, 3, 0), Check.broken(0, Check.rising(1, 64))));
        check.due("part(1, 3)", 64, () -> most.part(1, 3));
        check.due("decode(1)", 0, () -> most.decode(1));
        check.dueSamples(most, 64, 2, Check.rising(1, 16));
    }

    private static void thrownLatest(Check check) {
        MarkRecovery x = byCounts(16, 17);
        for (int k = 0; k < 2; k++) {
            int part = k;
            check.due("part(" + k + ", 5) before", -1, () -> x.part(part, 5));
            for (int time = 0; time < 2; time++) {
                x.decode(k);
                check.due("part(" + k + ", 5)", k, () -> x.part(part, 5));
            }
        }
    }

    private static void thrownByEach(Check check) {
        MarkRecovery x = byCounts(17, 16, 17);
        x.decode(1);
        check.due("part(0, 5)", -1, () -> x.part(0, 5));
        check.due("part(1, 5)", 0, () -> x.part(1, 5));
        check.due("part(2, 5)", -1, () -> x.part(2, 5));
        x.decodeAll();
        check.due("part(0, 5)", 1, () -> x.part(0, 5));
        check.due("part(1, 5)", 0, () -> x.part(1, 5));
        check.due("part(2, 5)", 1, () -> x.part(2, 5));
    }

    private static void thrownBeforeTheRun(Check check) {
        MarkRecovery x = byCounts(16, 17);
        x.decodeAll();
        x.run();
        check.due("part(0, 5)", -1, () -> x.part(0, 5));
        check.due("part(1, 5)", -1, () -> x.part(1, 5));
    }

    private static void otherWhats(Check check) {
        MarkRecovery x = byCounts(16, 17);
        x.decodeAll();
        int[] others = {-1, 6, 7, Integer.MIN_VALUE, Integer.MAX_VALUE};
        for (int what : others) {
            check.due("part(0, " + what + ")", -1, () -> x.part(0, what));
            check.due("part(1, " + what + ")", -1, () -> x.part(1, what));
        }
    }

    private static void decodeAnswers(Check check) {
        int[][] parts = {Check.part(0, 0, 1, 16, 5), Check.part(0, 1, 0, 5), Check.part(0, 2, 2, 5, 0),
            Check.part(0, 3, 3, 2, 0), Check.part(0, 4, 3, 0, 0, 3, 0), Check.part(0, 5, 3, 1, 0),
            Check.part(0, 6, 3, 7, 0)};
        MarkRecovery x = Check.ran(0, 99, Check.join(parts));
        for (int k = 0; k < parts.length; k++) {
            int part = k;
            check.due("decode(" + k + ")", k, () -> x.decode(part));
        }
    }

    private static void decodeAgain(Check check) {
        MarkRecovery x = byCounts(16, 17);
        for (int time = 1; time < 3; time++) {
            check.due("decode(0)", 0, () -> x.decode(0));
            check.due("decode(1)", 1, () -> x.decode(1));
            check.dueTold(x, 0, 99, 16, 2, 2, 0, 2 * time, time, 16);
        }
    }

    private static void decodesOneAlone(Check check) {
        MarkRecovery x = byCounts(16, 16, 16);
        check.due("decode(1)", 0, () -> x.decode(1));
        check.dueSamples(x, 0, 0, Check.same(-1, 16));
        check.dueSamples(x, 16, 1, Check.same(11, 16));
        check.dueSamples(x, 32, 0, Check.same(-1, 16));
    }

    private static void decodeAllOfNothing(Check check) {
        MarkRecovery x = Check.ran(0, 9, 1, 2, 3);
        check.due("decodeAll()", 0, x::decodeAll);
        check.due("told(6)", 0, () -> x.told(6));
    }

    private static void decodeAllOfSixteen(Check check) {
        int[] counts = Check.same(16, 16);
        MarkRecovery none = byCounts(counts);
        check.due("decodeAll(), none throws", 0, none::decodeAll);
        check.dueTold(none, 0, 99, 128, 16, 16, 0, 16, 0, 256);
        counts[15] = 17;
        MarkRecovery one = byCounts(counts);
        check.due("decodeAll(), the last one throws", 1, one::decodeAll);
        check.dueTold(one, 0, 99, 128, 16, 16, 0, 16, 1, 240);
        MarkRecovery all = byCounts(Check.same(17, 16));
        check.due("decodeAll(), all throw", 16, all::decodeAll);
        check.dueTold(all, 0, 99, 128, 16, 16, 0, 16, 16, 0);
    }

    private static void decodeAllInOrder(Check check) {
        MarkRecovery x = Check.ran(0, 99, Check.join(Check.part(0, 3, 1, 16, 5), Check.part(0, 3, 1, 16, 6),
                Check.part(0, 3, 1, 16, 7)));
        check.due("decodeAll()", 0, x::decodeAll);
        check.dueSamples(x, 48, 1, Check.same(7, 16));
    }

    private static void decodeAllGoesOn(Check check) {
        MarkRecovery x = byCounts(17, 16, 17, 16);
        check.due("decodeAll()", 2, x::decodeAll);
        check.dueSamples(x, 0, 0, Check.same(-1, 16));
        check.dueSamples(x, 16, 1, Check.same(11, 16));
        check.dueSamples(x, 32, 0, Check.same(-1, 16));
        check.dueSamples(x, 48, 1, Check.same(13, 16));
    }

    private static void valuesAtTheEnds(Check check) {
        MarkRecovery x = Check.ran(0, 99, Check.join(Check.part(0, 0, 1, 16, 0), Check.part(0, 15, 1, 16, 255)));
        check.due("at(0) before", -1, () -> x.at(0));
        x.decodeAll();
        check.due("at(0)", 0, () -> x.at(0));
        check.due("at(15)", 0, () -> x.at(15));
        check.due("at(16)", -1, () -> x.at(16));
        check.due("at(239)", -1, () -> x.at(239));
        check.due("at(240)", 255, () -> x.at(240));
        check.due("at(255)", 255, () -> x.at(255));
    }

    private static void noSuchSample(Check check) {
        MarkRecovery x = ofAllStates();
        int[] wrong = {-1, 256, Integer.MIN_VALUE, Integer.MAX_VALUE};
        for (int i : wrong) {
            check.dueThrow("at(" + i + ")", IndexOutOfBoundsException.class, () -> x.at(i));
            check.dueThrow("state(" + i + ")", IndexOutOfBoundsException.class, () -> x.state(i));
        }
    }

    private static void fourStates(Check check) {
        MarkRecovery x = Check.ran(0, 99, Check.join(Check.part(0, 0, 1, 16, 0), Check.broken(0, 16, 255)));
        x.decodeAll();
        check.due("sure", 1, () -> x.state(0));
        check.due("sure", 1, () -> x.state(15));
        check.due("guessed", 2, () -> x.state(16));
        check.due("guessed", 2, () -> x.state(31));
        check.due("nothing", 0, () -> x.state(32));
        check.due("nothing", 0, () -> x.state(255));
        x.fill(0);
        check.due("sure", 1, () -> x.state(0));
        check.due("guessed", 2, () -> x.state(31));
        check.due("filled", 3, () -> x.state(32));
        check.due("filled", 3, () -> x.state(255));
    }

    private static void filledThenTold(Check check) {
        MarkRecovery x = Check.ran(0, 99, Check.join(Check.part(0, 3, 1, 16, 0), Check.broken(0, 16, 255)));
        x.fill(0);
        check.dueSamples(x, 48, 3, Check.same(128, 32));
        x.decodeAll();
        check.dueSamples(x, 48, 1, new int[16]);
        check.dueSamples(x, 64, 2, Check.same(255, 16));
        check.dueSamples(x, 80, 3, 128);
    }

    private static void eachRuleBehindEach(Check check) {
        int[] values = {128, 255, 255};
        MarkRecovery x = new MarkRecovery(0, 9);
        int[] rules = {0, 0, 1, 1, 2, 2, 0, 2, 1, 0};
        for (int rule : rules) {
            check.due("fill(" + rule + ")", 256, () -> x.fill(rule));
            check.dueSamples(x, 0, 3, values[rule]);
            check.dueSamples(x, 17, 3, values[rule]);
            check.dueSamples(x, 255, 3, values[rule]);
        }
        MarkRecovery told = byCounts(16);
        told.decodeAll();
        check.due("fill(1) behind a row", 240, () -> told.fill(1));
        check.due("fill(2) behind a row", 240, () -> told.fill(2));
        check.dueSamples(told, 0, 1, Check.same(10, 16));
        check.dueSamples(told, 16, 3, Check.same(10, 240));
    }

    private static void wrongRules(Check check) {
        MarkRecovery x = new MarkRecovery(0, 9);
        int[] wrong = {-1, 3, Integer.MIN_VALUE, Integer.MAX_VALUE};
        for (int rule : wrong) {
            check.dueThrow("fill(" + rule + ")", IllegalArgumentException.class, () -> x.fill(rule));
        }
        check.dueSamples(x, 0, 0, -1);
    }

    private static void nothingToFill(Check check) {
        MarkRecovery x = byCounts(Check.same(16, 16));
        x.decodeAll();
        for (int rule = 0; rule < 3; rule++) {
            int asked = rule;
            check.due("fill(" + rule + ")", 0, () -> x.fill(asked));
        }
        check.dueSamples(x, 240, 1, Check.same(25, 16));
    }

    private static void clearNothing(Check check) {
        MarkRecovery x = new MarkRecovery(1, 9);
        x.clear();
        check.dueTold(x, 1, 9, 0, 0, 0, 0, 0, 0, 0);
        check.due("feed(1, 1)", 1, () -> x.feed(1, 1));
    }

    private static void clearAll(Check check) {
        MarkRecovery x = ofAllStates();
        x.clear();
        check.dueTold(x, 0, 99, 0, 0, 0, 0, 2, 0, 0);
        check.dueSamples(x, 0, 0, Check.same(-1, 256));
        check.dueSamples(x, 48, 0, Check.same(-1, 32));
        check.dueThrow("alter(0, 0)", IndexOutOfBoundsException.class, () -> x.alter(0, 0));
        check.dueThrow("part(0, 0)", IllegalStateException.class, () -> x.part(0, 0));
        check.due("fill(1)", 256, () -> x.fill(1));
        check.dueRun(x, 0, 0);
        check.due("feed(5, 8)", 8, () -> x.feed(5, 8));
        check.due("the first byte", 5, () -> x.alter(0, 0));
        check.dueRun(x, 0, 8);
    }

    private static void clearFull(Check check) {
        MarkRecovery x = Check.fed(0, 9, Check.same(7, 1200));
        x.clear();
        for (int fed = 0; fed < 1200; fed += 8) {
            check.due("feed behind " + fed, fed + 8, () -> x.feed(5, 8));
        }
        check.dueThrow("feed(5, 1)", UnsupportedOperationException.class, () -> x.feed(5, 1));
    }

    private static void clearedPartIsNotBefore(Check check) {
        MarkRecovery x = byCounts(16, 16);
        x.clear();
        Check.feed(x, Check.broken(0, 1, 2, 3));
        check.dueRun(x, 0, 9);
    }
}
