/** Terms: CODE 0, 1, 2 and 4. */
final class CodeEdges {
    private CodeEdges() {
    }

    static void all(Edges edges) {
        edges.sentence("CODE 0: the 16 bytes as they are; with fewer: THROWN 1.")
                .edge("just 16", check -> Codes.dueMade(check, 0, Check.rising(240, 16), Check.rising(240, 16)))
                .edge("one too few", check -> Codes.dueThrown(check, 0, 1, Check.rising(9, 15)))
                .edge("one alone", check -> Codes.dueThrown(check, 0, 1, 9))
                .edge("empty", check -> Codes.dueThrown(check, 0, 1));
        edges.sentence("What is behind 16 is not looked at (also in the codes that follow).")
                .edge("code 0: one more, and 64 in all", CodeEdges::moreByCodeZero)
                .edge("code 1: one more, too many more", CodeEdges::moreByCodeOne)
                .edge("code 2: one more, a divisor of 0", CodeEdges::moreByCodeTwo)
                .edge("code 3: one more, what throws", CodeEdges::moreByCodeThree)
                .edge("code 4: one more, what throws", CodeEdges::moreByCodeFour);
        edges.sentence("CODE 1: a byte n and a value: it is the next n samples; one behind the 16th: THROWN 1.")
                .edge("full: 16 at once", check -> Codes.dueMade(check, 1, new int[] {16, 200}, Check.same(200, 16)))
                .edge("16 of one each", CodeEdges::sixteenOfOne)
                .edge("empty: n is 0", CodeEdges::countsOfZero)
                .edge("too many: 17 and 255 at once", CodeEdges::tooManyAtOnce)
                .edge("too many: a 17th behind 15 and behind 1", CodeEdges::tooManyTogether)
                .edge("the values 0 and 255", CodeEdges::valuesOfCodeOne);
        edges.sentence("As long as there are not 16: further; a byte that is not there: THROWN 1.")
                .edge("empty", check -> Codes.dueThrown(check, 1, 1))
                .edge("n without a value", check -> Codes.dueThrown(check, 1, 1, 16))
                .edge("15 and no more", check -> Codes.dueThrown(check, 1, 1, 15, 5))
                .edge("15, and n without a value", check -> Codes.dueThrown(check, 1, 1, 15, 5, 1))
                .edge("15 and one more", CodeEdges::fifteenAndOne)
                .edge("64 bytes that are not enough", check -> Codes.dueThrown(check, 1, 1, new int[64]));
        divisionEdges(edges);
        differenceEdges(edges);
    }

    private static void divisionEdges(Edges edges) {
        edges.sentence("CODE 2: bytes a and b: the next sample is 16 a / b, rounded down, modulo 256;")
                .edge("rounded down: just below, just, just above", check -> dueQuotients(check,
                        new int[] {1, 17, 1, 16, 1, 15, 2, 33, 2, 32, 2, 31, 5, 3}, 0, 1, 1, 0, 1, 1, 26))
                .edge("wrap-around: 255, 256 and beyond", check -> dueQuotients(check,
                        new int[] {255, 16, 16, 1, 32, 2, 33, 2, 17, 1, 48, 1}, 255, 0, 0, 8, 16, 0))
                .edge("the smallest and the largest a and b", check -> dueQuotients(check,
                        new int[] {0, 1, 0, 255, 255, 1, 255, 255, 1, 255, 1, 1}, 0, 0, 240, 16, 0, 16));
        edges.sentence("b is 0: THROWN 2; a byte that is not there: THROWN 1.")
                .edge("b is 0", check -> Codes.dueThrown(check, 2, 2, 5, 0))
                .edge("both are 0", check -> Codes.dueThrown(check, 2, 2, 0, 0))
                .edge("b is 0 for the 16th alone", CodeEdges::zeroForTheLast)
                .edge("empty", check -> Codes.dueThrown(check, 2, 1))
                .edge("a without b", check -> Codes.dueThrown(check, 2, 1, 5))
                .edge("an a of 0 without b", check -> Codes.dueThrown(check, 2, 1, 0))
                .edge("15 samples and no more", check -> Codes.dueThrown(check, 2, 1, Check.same(7, 30)))
                .edge("the 16th without b", check -> Codes.dueThrown(check, 2, 1, Check.same(7, 31)))
                .edge("just 16", check -> Codes.dueMade(check, 2, Check.same(7, 32), Check.same(16, 16)));
    }

    private static void differenceEdges(Edges edges) {
        edges.sentence("CODE 4: the first byte is a sample;")
                .edge("0, 127, 128 and 255 as they are", CodeEdges::firstSamples);
        edges.sentence("each further one is a signed difference (128 .. 255 are -128 .. -1) to the sample before:")
                .edge("0, 1, 127, 128 and 255", check -> dueSums(check,
                        new int[] {100, 0, 1, 127, 128, 255}, 100, 100, 101, 228, 100, 99))
                .edge("the largest steps from end to end", check -> dueSums(check,
                        new int[] {0, 127, 127, 1, 128, 129, 127}, 0, 127, 254, 255, 127, 0, 127));
        edges.sentence("below 0 or above 255: THROWN 6; a byte that is not there: THROWN 1.")
                .edge("just 0 and just 255", check -> dueSums(check,
                        new int[] {1, 255, 127, 127, 1, 128, 1, 128}, 1, 0, 127, 254, 255, 127, 128, 0))
                .edge("below 0 by one", check -> Codes.dueThrown(check, 4, 6, 0, 255))
                .edge("below 0 by the largest step", check -> Codes.dueThrown(check, 4, 6, 127, 128))
                .edge("above 255 by one", check -> Codes.dueThrown(check, 4, 6, 255, 1))
                .edge("above 255 by the largest step", check -> Codes.dueThrown(check, 4, 6, 255, 127))
                .edge("for the 16th alone", CodeEdges::outsideForTheLast)
                .edge("empty", check -> Codes.dueThrown(check, 4, 1))
                .edge("one alone", check -> Codes.dueThrown(check, 4, 1, 9))
                .edge("one too few", check -> Codes.dueThrown(check, 4, 1, new int[15]))
                .edge("just 16", check -> Codes.dueMade(check, 4, Check.same(1, 16), Check.rising(1, 16)));
    }

    private static void moreByCodeZero(Check check) {
        Codes.dueMade(check, 0, Check.rising(9, 17), Check.rising(9, 16));
        Codes.dueMade(check, 0, Check.rising(9, 64), Check.rising(9, 16));
    }

    private static void moreByCodeOne(Check check) {
        Codes.dueMade(check, 1, new int[] {16, 8, 1}, Check.same(8, 16));
        Codes.dueMade(check, 1, new int[] {16, 8, 1, 9}, Check.same(8, 16));
        Codes.dueMade(check, 1, Check.join(new int[] {16, 8}, Check.same(255, 62)), Check.same(8, 16));
    }

    private static void moreByCodeTwo(Check check) {
        int[] enough = Check.same(7, 32);
        Codes.dueMade(check, 2, Check.join(enough, new int[] {7}), Check.same(16, 16));
        Codes.dueMade(check, 2, Check.join(enough, new int[] {7, 0}), Check.same(16, 16));
        Codes.dueMade(check, 2, Check.join(enough, new int[32]), Check.same(16, 16));
    }

    private static void moreByCodeThree(Check check) {
        int[] enough = Check.join(new int[] {0, Codes.arg(2, 19)}, Check.same(2, 32));
        int[] samples = Check.same(19, 16);
        Codes.dueMade(check, 3, enough, samples);
        Codes.dueMade(check, 3, Check.join(enough, new int[] {7}), samples);
        Codes.dueMade(check, 3, Check.join(enough, new int[] {7, 7}), samples);
        Codes.dueMade(check, 3, Check.join(enough, new int[] {2, 0}), samples);
        Codes.dueMade(check, 3, Check.join(enough, new int[] {2, 2}), samples);
    }

    private static void moreByCodeFour(Check check) {
        Codes.dueMade(check, 4, Check.join(Check.same(1, 16), new int[] {1}), Check.rising(1, 16));
        Codes.dueMade(check, 4, Check.join(Check.same(1, 16), new int[] {128}), Check.rising(1, 16));
        Codes.dueMade(check, 4, Check.join(Check.same(1, 16), Check.same(127, 48)), Check.rising(1, 16));
    }

    private static void sixteenOfOne(Check check) {
        int[] data = Check.same(1, 32);
        for (int i = 0; i < 16; i++) {
            data[2 * i + 1] = 50 + i;
        }
        Codes.dueMade(check, 1, data, Check.rising(50, 16));
    }

    private static void countsOfZero(Check check) {
        Codes.dueMade(check, 1, new int[] {0, 9, 16, 8}, Check.same(8, 16));
        Codes.dueMade(check, 1, new int[] {1, 3, 0, 9, 15, 4}, Check.join(new int[] {3}, Check.same(4, 15)));
        Codes.dueMade(check, 1, Check.join(new int[62], new int[] {16, 8}), Check.same(8, 16));
    }

    private static void tooManyAtOnce(Check check) {
        Codes.dueThrown(check, 1, 1, 17, 5);
        Codes.dueThrown(check, 1, 1, 255, 5);
    }

    private static void tooManyTogether(Check check) {
        Codes.dueThrown(check, 1, 1, 15, 5, 2, 6);
        Codes.dueThrown(check, 1, 1, 1, 5, 16, 6);
        Codes.dueThrown(check, 1, 1, 15, 5, 2, 6, 16, 7);
        Codes.dueThrown(check, 1, 1, 15, 5, 255, 6);
    }

    private static void valuesOfCodeOne(Check check) {
        Codes.dueMade(check, 1, new int[] {8, 0, 8, 255}, Check.join(new int[8], Check.same(255, 8)));
    }

    private static void fifteenAndOne(Check check) {
        Codes.dueMade(check, 1, new int[] {15, 5, 1, 6}, Check.join(Check.same(5, 15), new int[] {6}));
    }

    /** The first samples of code 2; what is missing to 16 follows. */
    private static void dueQuotients(Check check, int[] data, int... samples) {
        int[] more = Check.same(1, 32 - data.length);
        Codes.dueMade(check, 2, Check.join(data, more), Check.join(samples, Check.same(16, 16 - samples.length)));
    }

    private static void zeroForTheLast(Check check) {
        Codes.dueThrown(check, 2, 2, Check.join(Check.same(7, 31), new int[1]));
    }

    private static void firstSamples(Check check) {
        int[] firsts = {0, 127, 128, 255};
        for (int first : firsts) {
            Codes.dueMade(check, 4, Check.join(new int[] {first}, new int[15]), Check.same(first, 16));
        }
    }

    /** The first samples of code 4; the last one stays to the 16th. */
    private static void dueSums(Check check, int[] data, int... samples) {
        int left = 16 - samples.length;
        Codes.dueMade(check, 4, Check.join(data, new int[left]),
                Check.join(samples, Check.same(samples[samples.length - 1], left)));
    }

    private static void outsideForTheLast(Check check) {
        Codes.dueThrown(check, 4, 6, Check.join(new int[15], new int[] {255}));
        Codes.dueThrown(check, 4, 6, Check.join(new int[] {255}, new int[14], new int[] {1}));
    }
}
