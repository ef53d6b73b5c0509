/** The edges that 'Terms' names, each on both of its sides, for every V where V matters. */
public final class TermsEdgesTest {
    private static final int MAX = Steps.MAX;
    private static final int MIN = Steps.MIN;
    private static final int MOST_VERSIONS = 16;

    private TermsEdgesTest() {
    }

    public static void main(String[] args) {
        foldsAre0To3();
        keysAndSessionsAre0To15();
        theFirstDraft();
        applyMakesTheIndexOneMore();
        seqNotAboveThatOfItsSession();
        seqNotAboveIsAll();
        seqGoesBeforeSnapshotAndReads();
        seqOfTheAbortedCounts();
        greatestSeq();
        snapshotBelowTheOldest();
        snapshotZeroWhileIndexIsUpToV();
        writesAboveTheSnapshot();
        emptyAndFullSets();
        itsOwnWritesAreNotAboveItsSnapshot();
        anEarlierWriteOfTheSessionIsAbove();
        horizonIsMadeIndexLessV();
        horizonAfterTakeStaysTillItIsBelow();
        valuesFromHorizonToIndex();
        writtenKeysHaveTheirValue();
        Check.end();
    }

    private static void foldsAre0To3() {
        VersionFold x = new VersionFold(4);
        for (int fold = 0; fold < 4; fold++) {
            Steps.commit(x, fold, fold, fold + 1, fold, 100 + fold);
        }
        for (int f = 0; f < 4; f++) {
            int fold = f;
            Check.due(1, "T: INDEX of fold " + fold, () -> x.look(fold, 0));
            Check.due(100 + fold, "T: sum of VALUES of fold " + fold, () -> x.look(fold, 5));
            Check.due(100 + fold, "T: VALUE of fold " + fold, () -> x.value(fold, fold, 1));
            Check.due(fold + 1, "T: SEQ of fold " + fold, () -> x.seq(fold, fold));
        }
        Check.due(Check.NO_FOLD, "T: no FOLD -1", () -> x.look(-1, 0));
        Check.due(Check.NO_FOLD, "T: no FOLD 4", () -> x.look(4, 0));
    }

    private static void keysAndSessionsAre0To15() {
        VersionFold x = new VersionFold(16);
        for (int n = 0; n < 16; n++) {
            Steps.commit(x, 2, n, n + 1, n, 100 + n);
        }
        for (int i = 0; i < 16; i++) {
            int n = i;
            Check.due(100 + n, "T: VALUE of KEY " + n, () -> x.value(2, n, 16));
            Check.due(n + 1, "T: KEY was written " + n, () -> x.written(2, n));
            Check.due(n + 1, "T: SEQ of SESSION " + n, () -> x.seq(2, n));
            Check.due(1, "T: VERDICT of SESSION " + n, () -> x.verdict(2, n));
        }
    }

    private static void theFirstDraft() {
        VersionFold x = new VersionFold(1);
        Check.due(0, "T: no KEYS read", () -> x.look(0, 6));
        Check.due(0, "T: no KEYS written", () -> x.look(0, 7));
        // A SNAPSHOT above 0 would be NONE here, a SEQ below 1 would be 0.
        Check.due(1, "T: SNAPSHOT 0, SEQ above 0", () -> x.apply(0));
        Check.due(1, "T: SESSION 0, SEQ 1", () -> x.seq(0, 0));
        VersionFold y = new VersionFold(16);
        y.writes(3, 1);
        Steps.commit(y, 0, 1, 1, 4, 1);
        Check.due(0, "T: a new draft has no KEY of the first", () -> y.value(0, 3, 1));
    }

    private static void applyMakesTheIndexOneMore() {
        VersionFold x = new VersionFold(1);
        int[] verdicts = {1, 0, 2};
        Steps.commit(x, 0, 0, 1, 5, 1);
        for (int i = 0; i < verdicts.length; i++) {
            int index = i + 2;
            int verdict = verdicts[i];
            x.draft(verdict == 0 ? 0 : index, 1, verdict == 2 ? 0 : index - 1);
            Check.due(verdict, "T: verdict " + verdict, () -> x.apply(0));
            Check.due(index, "T: INDEX after verdict " + verdict, () -> x.look(0, 0));
            Check.due(index - 1, "T: HORIZON after verdict " + verdict, () -> x.look(0, 1));
        }
    }

    private static void seqNotAboveThatOfItsSession() {
        VersionFold x = new VersionFold(16);
        x.draft(6, 5, 0);
        Check.due(1, "T: SEQ 5", () -> x.apply(0));
        for (int seq : new int[] {5, 4, 1}) {
            x.draft(6, seq, 0);
            Check.due(0, "T: SEQ is not above 5: " + seq, () -> x.test(0));
            Check.due(0, "T: SEQ is not above 5: " + seq, () -> x.apply(0));
            Check.due(1, "T: another FOLD has no SEQ", () -> x.test(3));
        }
        x.draft(6, 6, 1);
        Check.due(1, "T: SEQ is one above 5", () -> x.test(0));
        Check.due(1, "T: SEQ is one above 5", () -> x.apply(0));
        Check.due(6, "T: SEQ is that then", () -> x.seq(0, 6));
        x.draft(7, 1, 1);
        Check.due(1, "T: SEQ 1 of a SESSION with none", () -> x.apply(0));
    }

    private static void seqNotAboveIsAll() {
        VersionFold x = new VersionFold(4);
        Steps.commit(x, 0, 6, 5, 2, 20);
        x.draft(6, 5, 1);
        x.writes(2, 99);
        x.writes(3, 99);
        Check.due(0, "T: SEQ is not above", () -> x.apply(0));
        int[] looks = {2, 0, 1, 0, 1, 20};
        for (int w = 0; w < looks.length; w++) {
            int which = w;
            Check.due(looks[which], "T: that is all, look " + which, () -> x.look(0, which));
        }
        Check.due(20, "T: that is all", () -> x.value(0, 2, 2));
        Check.due(0, "T: that is all", () -> x.value(0, 3, 2));
        Check.due(1, "T: that is all", () -> x.written(0, 2));
        Check.due(-1, "T: that is all", () -> x.written(0, 3));
        Check.due(0, "T: that is all", () -> x.since(0, 1));
        Check.due(5, "T: that is all", () -> x.seq(0, 6));
        Check.due(1, "T: that is all", () -> x.verdict(0, 6));
        Check.due(1, "T: its WRITE SET aborts no one", () -> Steps.applyRead(x, 1, 1, 2));
    }

    private static void seqGoesBeforeSnapshotAndReads() {
        VersionFold x = new VersionFold(1);
        for (int seq = 1; seq <= 3; seq++) {
            Steps.commit(x, 0, 0, seq, 4, seq);
        }
        x.draft(0, 3, 0);
        x.reads(4);
        Check.due(0, "T: SEQ old, SNAPSHOT too old", () -> x.test(0));
        Check.due(0, "T: SEQ old, SNAPSHOT too old", () -> x.apply(0));
        Steps.commit(x, 0, 0, 4, 4, 4);
        x.draft(0, 4, 4);
        x.reads(4);
        Check.due(0, "T: SEQ old, read KEY written since", () -> x.test(0));
        Check.due(0, "T: SEQ old, read KEY written since", () -> x.apply(0));
        Check.due(0, "T: none of them aborted", () -> x.look(0, 3));
        Check.due(1, "T: VERDICT stays", () -> x.verdict(0, 0));
    }

    private static void seqOfTheAbortedCounts() {
        VersionFold x = new VersionFold(16);
        Steps.commit(x, 0, 0, 1, 4, 1);
        Check.due(2, "T: aborted", () -> Steps.applyRead(x, 0, 7, 4));
        Check.due(7, "T: SEQ of the aborted", () -> x.seq(0, 1));
        Check.due(2, "T: VERDICT of the aborted", () -> x.verdict(0, 1));
        Check.due(0, "T: its SEQ again", () -> Steps.applyRead(x, 2, 7, 4));
        Check.due(2, "T: VERDICT stays", () -> x.verdict(0, 1));
        Check.due(1, "T: the next SEQ", () -> Steps.applyRead(x, 2, 8, 4));
        Check.due(1, "T: VERDICT of the next", () -> x.verdict(0, 1));
    }

    private static void greatestSeq() {
        VersionFold x = new VersionFold(16);
        x.draft(0, MAX - 1, 0);
        Check.due(1, "T: the greatest SEQ but one", () -> x.apply(0));
        x.draft(0, MAX, 0);
        Check.due(1, "T: the greatest SEQ", () -> x.apply(0));
        Check.due(0, "T: none is above it", () -> x.apply(0));
        x.draft(0, 1, 0);
        Check.due(0, "T: SEQ 1 is not above it", () -> x.apply(0));
        Check.due(MAX, "T: it stays", () -> x.seq(0, 0));
    }

    /** With i the INDEX and 1 more, i - 1 - V is the INDEX before less V. */
    private static void snapshotBelowTheOldest() {
        for (int v = 1; v <= MOST_VERSIONS; v++) {
            for (int index = 0; index <= v + 3; index++) {
                snapshotBelowTheOldest(v, index);
            }
        }
    }

    private static void snapshotBelowTheOldest(int v, int index) {
        VersionFold x = new VersionFold(v);
        Steps.applyEmpty(x, 0, index);
        for (int s = 0; s <= index + 1; s++) {
            int due = s > index ? -1 : s < index - v ? 2 : 1;
            String what = "T: V " + v + ", INDEX " + index + ", SNAPSHOT " + s;
            x.draft(1, 1, s);
            Check.due(due, what, () -> x.test(0));
        }
        int last = Math.max(0, index - v);
        x.draft(1, 1, last);
        Check.due(1, "T: the oldest SNAPSHOT, V " + v, () -> x.apply(0));
    }

    private static void snapshotZeroWhileIndexIsUpToV() {
        for (int v = 1; v <= MOST_VERSIONS; v++) {
            VersionFold x = new VersionFold(v);
            for (int index = 0; index <= v + 1; index++) {
                int due = index <= v ? 1 : 2;
                x.draft(2, index + 1, 0);
                Check.due(due, "T: SNAPSHOT 0, V " + v + ", INDEX " + index, () -> x.apply(0));
            }
            Check.due(1, "T: one aborted, V " + v, () -> x.look(0, 3));
        }
    }

    private static void writesAboveTheSnapshot() {
        for (int v = 1; v <= MOST_VERSIONS; v++) {
            for (int write = 1; write <= v + 2; write++) {
                writesAboveTheSnapshot(v, write);
            }
        }
    }

    /** The INDEX is V + 2, so that 2 is the oldest SNAPSHOT. */
    private static void writesAboveTheSnapshot(int v, int write) {
        VersionFold x = new VersionFold(v);
        int index = v + 2;
        Steps.applyEmpty(x, 0, write - 1);
        Steps.commit(x, 0, 0, 1, 11, 5);
        Steps.applyEmpty(x, 0, index - write);
        for (int s = 2; s <= index; s++) {
            int snapshot = s;
            String what = "V " + v + ", written at " + write + ", SNAPSHOT " + snapshot;
            boolean above = write > snapshot;
            Check.due(above ? 2 : 1, "T: " + what, () -> Steps.testRead(x, snapshot, 11));
            Check.due(1, "T: another KEY, " + what, () -> Steps.testRead(x, snapshot, 10));
            Check.due(above ? 1 << 11 : 0, "13: " + what, () -> x.since(0, snapshot));
        }
        Check.due(write < 2 ? -1 : write, "12: V " + v + ", HORIZON 2", () -> x.written(0, 11));
    }

    private static void emptyAndFullSets() {
        VersionFold x = new VersionFold(16);
        x.draft(0, 1, 0);
        for (int key = 0; key < 16; key++) {
            x.writes(key, key + 1);
        }
        Check.due(0xFFFF, "T: a full WRITE SET", () -> x.look(0, 7));
        Check.due(1, "T: a full WRITE SET", () -> x.apply(0));
        Check.due(0xFFFF, "T: all KEYS since", () -> x.since(0, 0));
        Check.due(136, "T: all VALUES", () -> x.look(0, 5));
        x.draft(1, 1, 0);
        for (int key = 0; key < 16; key++) {
            x.writes(key, 0);
        }
        Check.due(1, "T: KEYS that are written only, all written since", () -> x.test(0));
        x.draft(1, 1, 0);
        Check.due(1, "T: no KEYS, all written since", () -> x.apply(0));
        Check.due(0, "T: an empty WRITE SET writes none", () -> x.since(0, 1));
        Check.due(136, "T: an empty WRITE SET", () -> x.look(0, 5));
        Steps.commit(x, 0, 0, 2, 15, 0);
        for (int snapshot = 2; snapshot <= 3; snapshot++) {
            x.draft(1, 2, snapshot);
            for (int key = 0; key < 16; key++) {
                x.reads(key);
            }
            Check.due(0xFFFF, "T: a full READ SET", () -> x.look(0, 6));
            Check.due(snapshot == 2 ? 2 : 1, "T: SNAPSHOT " + snapshot, () -> x.test(0));
        }
    }

    private static void itsOwnWritesAreNotAboveItsSnapshot() {
        VersionFold x = new VersionFold(1);
        x.draft(0, 1, 0);
        x.reads(3);
        x.writes(3, 1);
        Check.due(1, "T: reads what it writes itself", () -> x.test(0));
        Check.due(1, "T: reads what it writes itself", () -> x.apply(0));
    }

    private static void anEarlierWriteOfTheSessionIsAbove() {
        VersionFold x = new VersionFold(16);
        Steps.commit(x, 0, 1, 1, 3, 7);
        Check.due(2, "T: the SESSION wrote it since", () -> Steps.applyRead(x, 0, 2, 3));
        Steps.commit(x, 0, 1, 3, 4, 0);
        Check.due(2, "T: the same VALUE is a write", () -> Steps.applyRead(x, 2, 4, 4));
    }

    private static void horizonIsMadeIndexLessV() {
        for (int v = 1; v <= MOST_VERSIONS; v++) {
            VersionFold x = new VersionFold(v);
            for (int index = 0; index <= 2 * v + 3; index++) {
                int horizon = Math.max(0, index - v);
                int now = index;
                String what = "T: HORIZON, V " + v + ", INDEX " + now;
                Check.due(horizon, what, () -> x.look(0, 1));
                Check.due(0, what, () -> x.value(0, 0, horizon));
                Check.due(Check.BAD_ARGUMENT, what, () -> x.value(0, 0, horizon - 1));
                Check.due(0, what, () -> x.value(0, 0, now));
                Check.due(Check.BAD_ARGUMENT, what, () -> x.value(0, 0, now + 1));
                Steps.applyEmpty(x, 0, 1);
            }
        }
    }

    private static void horizonAfterTakeStaysTillItIsBelow() {
        for (int v = 1; v <= MOST_VERSIONS; v++) {
            VersionFold x = new VersionFold(v);
            Steps.applyEmpty(x, 0, 5);
            x.take(0, 1);
            for (int index = 5; index <= 5 + v + 3; index++) {
                int horizon = Math.max(5, index - v);
                String what = "T: HORIZON was 5, V " + v + ", INDEX " + index;
                Check.due(horizon, what, () -> x.look(1, 1));
                Check.due(0, what, () -> x.value(1, 0, horizon));
                Check.due(Check.BAD_ARGUMENT, what, () -> x.value(1, 0, horizon - 1));
                Steps.applyEmpty(x, 1, 1);
            }
        }
    }

    private static void valuesFromHorizonToIndex() {
        for (int v = 1; v <= MOST_VERSIONS; v++) {
            for (int index : new int[] {1, v - 1, v, v + 1, 16, 17, 18, 34, 35, 52}) {
                valuesFromHorizonToIndex(v, index);
            }
        }
    }

    private static void valuesFromHorizonToIndex(int v, int index) {
        VersionFold x = new VersionFold(v);
        for (int i = 1; i <= index; i++) {
            Steps.commit(x, 0, 0, i, i % 2 == 0 ? 0 : 15, i);
        }
        for (int i = Math.max(0, index - v); i <= index; i++) {
            int at = i;
            int even = at - at % 2;
            int odd = at == 0 ? 0 : at - 1 + at % 2;
            String what = "T: V " + v + ", INDEX " + index + ", VALUE at " + at;
            Check.due(even, what, () -> x.value(0, 0, at));
            Check.due(odd, what, () -> x.value(0, 15, at));
            Check.due(0, what, () -> x.value(0, 7, at));
        }
    }

    private static void writtenKeysHaveTheirValue() {
        VersionFold x = new VersionFold(4);
        int[] values = {MIN, MAX, -1, 0, 1};
        x.draft(0, 1, 0);
        for (int key = 0; key < values.length; key++) {
            x.writes(key, 55);
            x.writes(key, values[key]);
        }
        Check.due(1, "T: apply", () -> x.apply(0));
        for (int k = 0; k < values.length; k++) {
            int key = k;
            Check.due(values[key], "T: its VALUE, the later one", () -> x.value(0, key, 1));
            Check.due(1, "T: written, whatever the VALUE", () -> x.written(0, key));
        }
    }
}
