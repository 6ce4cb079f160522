/** Two objects that were made alike: one of them is then called so that it throws. */
final class Twins {
    interface Maker {
        MarkRecovery make();
    }

    interface Call {
        long of(MarkRecovery x);
    }

    /** Samples are compared by quarters, as an object is used for 512 calls at most. */
    private static final int QUARTER = 64;
    private static final int BYTES_COMPARED = 40;

    private Twins() {
    }

    /** The call throws, and behind it all answers are those of the twin without the call. */
    static void dueUnchanged(Check check, String name, Class<? extends RuntimeException> thrown,
            Maker maker, Call call) {
        for (int first = 0; first < 256; first += QUARTER) {
            MarkRecovery x = maker.make();
            MarkRecovery twin = maker.make();
            check.dueThrow(name, thrown, () -> call.of(x));
            // First what never throws: calls that throw could change the twin alike.
            dueSameTold(check, name, x, twin);
            dueSameSamples(check, name, x, twin, first);
            dueSameParts(check, name, x, twin);
            dueSame(check, name + ", then decodeAll()", x, twin, MarkRecovery::decodeAll);
            dueSameTold(check, name, x, twin);
            dueSame(check, name + ", then run()", x, twin, MarkRecovery::run);
            dueSameTold(check, name, x, twin);
            dueSameBytes(check, name, x, twin);
        }
    }

    private static void dueSameSamples(Check check, String name, MarkRecovery x, MarkRecovery twin, int first) {
        for (int i = first; i < first + QUARTER; i++) {
            int sample = i;
            dueSame(check, name + ", then at(" + i + ")", x, twin, one -> one.at(sample));
            dueSame(check, name + ", then state(" + i + ")", x, twin, one -> one.state(sample));
        }
    }

    private static void dueSameParts(Check check, String name, MarkRecovery x, MarkRecovery twin) {
        for (int k = 0; k < 3; k++) {
            for (int what = 0; what < 6; what++) {
                int part = k;
                int asked = what;
                String then = ", then part(" + k + ", " + what + ")";
                dueSame(check, name + then, x, twin, one -> one.part(part, asked));
            }
        }
    }

    private static void dueSameTold(Check check, String name, MarkRecovery x, MarkRecovery twin) {
        for (int what = 0; what < 9; what++) {
            int asked = what;
            dueSame(check, name + ", then told(" + what + ")", x, twin, one -> one.told(asked));
        }
    }

    /** The first bytes and those that may be the last. */
    private static void dueSameBytes(Check check, String name, MarkRecovery x, MarkRecovery twin) {
        for (int i = 0; i < BYTES_COMPARED; i++) {
            int low = i;
            int high = 1199 - i;
            dueSame(check, name + ", then byte " + low, x, twin, one -> one.alter(low, 0));
            dueSame(check, name + ", then byte " + high, x, twin, one -> one.alter(high, 0));
        }
    }

    private static void dueSame(Check check, String name, MarkRecovery x, MarkRecovery twin, Call call) {
        long due;
        try {
            due = call.of(twin);
        } catch (RuntimeException thrown) {
            check.dueThrow(name, thrown.getClass(), () -> call.of(x));
            return;
        }
        check.due(name, due, () -> call.of(x));
    }
}
