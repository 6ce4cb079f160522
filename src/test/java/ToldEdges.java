/** Promise 11: told. */
final class ToldEdges {
    private ToldEdges() {
    }

    static void all(Edges edges) {
        edges.sentence("The KIND (what = 0), STEPS that may be (1), bytes (2), PARTS (3),")
                .edge("the least of each", ToldEdges::leastOfEach)
                .edge("full: the largest of each", ToldEdges::largestOfEach);
        edges.sentence("STEPS that the latest run took (4),")
                .edge("the latest, not the longest and not all", ToldEdges::latestRun)
                .edge("never more than may be", ToldEdges::neverMoreThanMayBe);
        edges.sentence("1 if that ended for lack of STEPS, with bytes left and fewer than 16 PARTS (5),")
                .edge("one too few, just so many, one more", ToldEdges::lackAroundPlaces)
                .edge("empty: no bytes, none left", ToldEdges::noLackOfNothing)
                .edge("the last step finds a part that ends with the bytes", ToldEdges::lastStepIsAPart)
                .edge("a byte left behind the part of the last step", ToldEdges::byteLeftBehindAPart)
                .edge("the last step is the last of guessed data", ToldEdges::lastStepIsData)
                .edge("16 parts by the last step, with bytes left", ToldEdges::sixteenByTheLastStep)
                .edge("15 parts by the last step, with bytes left", ToldEdges::fifteenByTheLastStep)
                .edge("the 16th part is guessed and cut by the steps", ToldEdges::sixteenthIsCut)
                .edge("16 parts with steps and bytes left", ToldEdges::sixteenWithStepsLeft)
                .edge("the latest run alone", ToldEdges::lackOfTheLatest);
        edges.sentence("each 0 before a run and behind clear(),")
                .edge("before a run, empty and fed", ToldEdges::beforeARun)
                .edge("behind clear()", ToldEdges::behindClear);
        edges.sentence("PARTS also behind feed() and alter() (the two others stay then);")
                .edge("feed()", check -> dueOthersStay(check, 1, x -> x.feed(0, 1)))
                .edge("alter()", check -> dueOthersStay(check, 0, x -> x.alter(0, 0)))
                .edge("refused: all three stay", ToldEdges::refusedCallsStay);
        edges.sentence("decodings since the beginning (6), those by which something was THROWN (7),")
                .edge("empty: none at first", check -> check.dueTold(new MarkRecovery(0, 9), 0, 9, 0, 0, 0, 0, 0, 0))
                .edge("each one of decodeAll()", ToldEdges::decodingsOfAll)
                .edge("on over run(), feed(), alter() and clear()", ToldEdges::decodingsGoOn)
                .edge("refused ones do not count", ToldEdges::refusedDecodings);
        edges.sentence("SURE samples (8);")
                .edge("empty: 0; full: 256", ToldEdges::sureAtTheEnds)
                .edge("not those that are guessed or filled", ToldEdges::sureAlone)
                .edge("those told twice are not counted twice", ToldEdges::sureTwice);
        edges.sentence("SURE samples (8); NONE for another what.")
                .edge("too small: -1; too large: 9", ToldEdges::otherWhats);
    }

    private static int[] parts(int count) {
        int[] bytes = {};
        for (int i = 0; i < count; i++) {
            bytes = Check.join(bytes, Check.part(0, i % 16, 1, 16, i));
        }
        return bytes;
    }

    private static void leastOfEach(Check check) {
        MarkRecovery x = new MarkRecovery(0, 1);
        x.run();
        check.dueTold(x, 0, 1, 0, 0);
    }

    private static void largestOfEach(Check check) {
        MarkRecovery x = Check.ran(2, 65536, Check.full(fullParts()));
        check.dueTold(x, 2, 65536, 1200, 16);
    }

    private static int[] fullParts() {
        int[] bytes = {};
        for (int i = 0; i < 16; i++) {
            bytes = Check.join(bytes, Check.part(2, i, 0, new int[64]));
        }
        return bytes;
    }

    private static void latestRun(Check check) {
        MarkRecovery x = Check.ran(0, 99, new int[10]);
        check.due("told(4)", 10, () -> x.told(4));
        x.clear();
        Check.feed(x, new int[3]);
        x.run();
        check.due("told(4)", 3, () -> x.told(4));
        x.run();
        check.due("told(4)", 3, () -> x.told(4));
    }

    private static void neverMoreThanMayBe(Check check) {
        int[] bytes = Check.join(parts(1), Check.broken(0, Check.rising(1, 10)));
        for (int steps = 1; steps < 15; steps++) {
            MarkRecovery x = Check.ran(0, steps, bytes);
            check.due("told(4) of " + steps, Math.min(steps, 12), () -> x.told(4));
        }
    }

    private static void dueLack(Check check, int steps, int lack, int[]... pieces) {
        MarkRecovery x = Check.ran(0, steps, Check.join(pieces));
        check.due("told(4)", steps, () -> x.told(4));
        check.due("told(5)", lack, () -> x.told(5));
    }

    private static void lackAroundPlaces(Check check) {
        dueLack(check, 19, 1, new int[20]);
        dueLack(check, 20, 0, new int[20]);
        MarkRecovery more = Check.ran(0, 21, new int[20]);
        check.due("told(5)", 0, () -> more.told(5));
    }

    private static void noLackOfNothing(Check check) {
        MarkRecovery x = Check.ran(0, 1);
        check.due("told(4)", 0, () -> x.told(4));
        check.due("told(5)", 0, () -> x.told(5));
    }

    private static void lastStepIsAPart(Check check) {
        dueLack(check, 1, 0, parts(1));
        dueLack(check, 3, 0, parts(3));
    }

    private static void byteLeftBehindAPart(Check check) {
        dueLack(check, 1, 1, parts(1), new int[1]);
        dueLack(check, 3, 1, parts(3), new int[1]);
    }

    private static void lastStepIsData(Check check) {
        dueLack(check, 6, 0, parts(1), Check.broken(0, 1, 2, 3, 4));
        dueLack(check, 5, 1, parts(1), Check.broken(0, 1, 2, 3, 4));
        dueLack(check, 2, 1, parts(1), Check.broken(0, 1, 2, 3, 4));
        dueLack(check, 2, 0, parts(1), Check.broken(0));
    }

    private static void sixteenByTheLastStep(Check check) {
        dueLack(check, 16, 0, parts(16), new int[4]);
        dueLack(check, 16, 0, parts(17));
    }

    private static void fifteenByTheLastStep(Check check) {
        dueLack(check, 15, 1, parts(15), new int[4]);
        dueLack(check, 15, 1, parts(16));
    }

    private static void sixteenthIsCut(Check check) {
        dueLack(check, 17, 0, parts(15), Check.broken(0, 1, 2, 3, 4));
        dueLack(check, 17, 1, parts(14), Check.broken(0, 1, 2, 3, 4));
    }

    private static void sixteenWithStepsLeft(Check check) {
        MarkRecovery x = Check.ran(0, 99, Check.join(parts(16), new int[4]));
        check.due("told(4)", 16, () -> x.told(4));
        check.due("told(5)", 0, () -> x.told(5));
    }

    private static void lackOfTheLatest(Check check) {
        MarkRecovery x = Check.ran(0, 5, new int[6]);
        check.due("told(5)", 1, () -> x.told(5));
        x.clear();
        Check.feed(x, new int[5]);
        x.run();
        check.due("told(5) without clear() between", 0, () -> x.told(5));
        Check.feed(x, new int[1]);
        x.run();
        check.due("told(5) of one byte more", 1, () -> x.told(5));
        // A part in the place of the bytes: one step is enough then.
        int[] part = Check.part(0, 3, 1);
        for (int i = 0; i < 6; i++) {
            x.alter(i, part[i]);
        }
        x.run();
        check.due("told(5) of a part", 0, () -> x.told(5));
    }

    private static void beforeARun(Check check) {
        check.dueTold(new MarkRecovery(0, 2), 0, 2, 0, 0, 0, 0);
        check.dueTold(Check.fed(0, 2, parts(3)), 0, 2, 24, 0, 0, 0);
    }

    private static void behindClear(Check check) {
        MarkRecovery x = Check.ran(0, 2, parts(3));
        check.dueTold(x, 0, 2, 24, 2, 2, 1);
        x.clear();
        check.dueTold(x, 0, 2, 0, 0, 0, 0);
        Check.feed(x, parts(3));
        check.dueTold(x, 0, 2, 24, 0, 0, 0);
    }

    private static void dueOthersStay(Check check, int more, Twins.Call call) {
        MarkRecovery x = Check.ran(0, 2, parts(3));
        call.of(x);
        check.dueTold(x, 0, 2, 24 + more, 0, 2, 1);
        MarkRecovery enough = Check.ran(0, 9, parts(3));
        call.of(enough);
        check.dueTold(enough, 0, 9, 24 + more, 0, 3, 0);
    }

    private static void refusedCallsStay(Check check) {
        MarkRecovery x = Check.ran(0, 2, parts(3));
        check.dueThrow("feed(0, 9)", IllegalArgumentException.class, () -> x.feed(0, 9));
        check.dueThrow("alter(24, 0)", IndexOutOfBoundsException.class, () -> x.alter(24, 0));
        check.dueThrow("alter(0, 256)", IllegalArgumentException.class, () -> x.alter(0, 256));
        check.dueTold(x, 0, 2, 24, 2, 2, 1);
    }

    private static void decodingsOfAll(Check check) {
        MarkRecovery x = Check.ran(0, 99, Check.join(parts(2), Check.part(0, 4, 0, 5)));
        x.decodeAll();
        check.dueTold(x, 0, 99, 23, 3, 3, 0, 3, 1);
        x.decode(2);
        check.dueTold(x, 0, 99, 23, 3, 3, 0, 4, 2);
    }

    private static void decodingsGoOn(Check check) {
        MarkRecovery x = Check.ran(0, 99, Check.join(parts(1), Check.part(0, 4, 0, 5)));
        x.decodeAll();
        x.feed(0, 1);
        check.dueTold(x, 0, 99, 16, 0, 2, 0, 2, 1);
        x.run();
        check.dueTold(x, 0, 99, 16, 2, 3, 0, 2, 1);
        x.alter(0, 0);
        check.dueTold(x, 0, 99, 16, 0, 3, 0, 2, 1);
        x.clear();
        check.dueTold(x, 0, 99, 0, 0, 0, 0, 2, 1);
        Check.feed(x, parts(1));
        x.run();
        x.decode(0);
        check.dueTold(x, 0, 99, 8, 1, 1, 0, 3, 1);
    }

    private static void refusedDecodings(Check check) {
        MarkRecovery x = Check.fed(0, 99, parts(1));
        check.dueThrow("decode(0)", IllegalStateException.class, () -> x.decode(0));
        check.dueThrow("decodeAll()", IllegalStateException.class, x::decodeAll);
        x.run();
        check.dueThrow("decode(1)", IndexOutOfBoundsException.class, () -> x.decode(1));
        check.dueTold(x, 0, 99, 8, 1, 1, 0, 0, 0);
    }

    private static void sureAtTheEnds(Check check) {
        MarkRecovery x = Check.ran(0, 99, parts(16));
        check.due("told(8)", 0, () -> x.told(8));
        x.decode(0);
        check.due("told(8) of one row", 16, () -> x.told(8));
        x.decodeAll();
        check.due("told(8) of all", 256, () -> x.told(8));
        x.run();
        check.due("told(8) of another run", 0, () -> x.told(8));
    }

    private static void sureAlone(Check check) {
        MarkRecovery x = Check.ran(0, 99, Check.join(parts(1), Check.broken(0, 16, 9)));
        x.fill(1);
        check.due("told(8) of filled ones", 0, () -> x.told(8));
        x.decode(1);
        check.due("told(8) of guessed ones", 0, () -> x.told(8));
        x.decode(0);
        check.due("told(8) of one row", 16, () -> x.told(8));
    }

    private static void sureTwice(Check check) {
        MarkRecovery x = Check.ran(0, 99, Check.join(parts(1), parts(1)));
        x.decodeAll();
        x.decodeAll();
        check.due("told(8)", 16, () -> x.told(8));
    }

    private static void otherWhats(Check check) {
        MarkRecovery x = Check.ran(0, 99, parts(2));
        x.decodeAll();
        int[] others = {-1, 9, 10, Integer.MIN_VALUE, Integer.MAX_VALUE};
        for (int what : others) {
            check.due("told(" + what + ")", -1, () -> x.told(what));
        }
    }
}
