/** Short runs of calls that many tests begin with, and numbers that name nothing. */
final class Steps {
    static final int MAX = Integer.MAX_VALUE;
    static final int MIN = Integer.MIN_VALUE;
    static final int[] NO_FOLDS = {-1, 4, 5, MIN, MAX};
    // 32 and -32 are 0 to a shift, which looks at five bits alone.
    static final int[] NOT_0_TO_15 = {-1, 16, 31, 32, -32, MIN, MAX};

    private Steps() {
    }

    /** Makes a REQUEST with the newest SNAPSHOT that writes one KEY, and applies it. */
    static void commit(VersionFold x, int fold, int session, int seq, int key, int value) {
        x.draft(session, seq, x.look(fold, 0));
        x.writes(key, value);
        x.apply(fold);
    }

    /** Makes the INDEX some more: the first REQUEST of SESSION 14 commits, the rest are old. */
    static void applyEmpty(VersionFold x, int fold, int times) {
        x.draft(14, 1, 0);
        for (int i = 0; i < times; i++) {
            x.apply(fold);
        }
    }

    /** What FOLD 0 makes of a REQUEST of SESSION 1 that only reads one KEY. */
    static int applyRead(VersionFold x, int snapshot, int seq, int key) {
        x.draft(1, seq, snapshot);
        x.reads(key);
        return x.apply(0);
    }

    /** How FOLD 0 would decide a REQUEST of SESSION 1, SEQ 1, that only reads one KEY. */
    static int testRead(VersionFold x, int snapshot, int key) {
        x.draft(1, 1, snapshot);
        x.reads(key);
        return x.test(0);
    }
}
