import java.util.stream.IntStream;

/** The edges that the promises name, by their numbers, each on both of its sides. */
public final class PromiseEdgesTest {
    private static final int MAX = Steps.MAX;
    private static final int MIN = Steps.MIN;

    private PromiseEdgesTest() {
    }

    public static void main(String[] args) {
        promise1VersionsOutside1To16();
        promise2LeastAndGreatest();
        promise2NoKeysThen();
        promises3And4EveryKey();
        promises3And4AKeyTwice();
        promise5SnapshotUpToIndex();
        promise5TheLastIndex();
        promise5TheDraftStays();
        promise6AsApplyThen();
        promise7IndexAboveThatOfB();
        promise7HorizonIsIndex();
        promise7FoldsPartAgain();
        promise7TakenTwice();
        promise8OfAFoldAsAtFirst();
        promise8OfATakenFold();
        promise8ClearedFoldsBeginAgain();
        promise9HorizonAndIndex();
        promises10And11NoneAtFirst();
        promise12FromHorizonToIndex();
        promise12NotByOthersThanCommitted();
        promise13FromIndexLessVToIndex();
        promise13AfterTake();
        promise14AtFirstAndItself();
        promise14OneDifference();
        promise14AlikeAllTheSame();
        promise14SinceAtTheOldest();
        promise14SinceBelowHorizon();
        promise15EveryWhich();
        promise15TheSumWraps();
        promise15TheSumIsOfTheValuesNow();
        allOf512Calls();
        Check.end();
    }

    private static void promise1VersionsOutside1To16() {
        int[] below = {0, -1, -16, MIN};
        int[] above = {17, 18, 32, 1000, MAX};
        for (int versions = 1; versions <= 16; versions++) {
            dueVersions(versions, versions);
        }
        for (int versions : below) {
            dueVersions(versions, 1);
        }
        for (int versions : above) {
            dueVersions(versions, 16);
        }
    }

    /** All that V has a part in: HORIZON, what since can be asked, and which SNAPSHOT is old. */
    private static void dueVersions(int versions, int v) {
        VersionFold x = new VersionFold(versions);
        String what = "1: versions " + versions + " ";
        Check.due(0, what + "since at first", () -> x.since(0, -v));
        Check.due(Check.BAD_ARGUMENT, what + "since at first", () -> x.since(0, -v - 1));
        Steps.applyEmpty(x, 0, 40);
        Check.due(40 - v, what + "HORIZON", () -> x.look(0, 1));
        Check.due(0, what + "since", () -> x.since(0, 40 - v));
        Check.due(Check.BAD_ARGUMENT, what + "since", () -> x.since(0, 39 - v));
        Check.due(1, what + "the oldest SNAPSHOT", () -> Steps.testRead(x, 40 - v, 0));
        Check.due(2, what + "SNAPSHOT too old", () -> Steps.testRead(x, 39 - v, 0));
    }

    private static void promise2LeastAndGreatest() {
        VersionFold x = new VersionFold(4);
        int[][] drafts = {{0, 1, 0}, {15, 1, 0}, {0, MAX, 0}, {15, MAX, MAX}, {0, 1, MAX}};
        for (int[] d : drafts) {
            String what = "2: draft(" + d[0] + ", " + d[1] + ", " + d[2] + ")";
            Check.due(true, what, () -> x.draft(d[0], d[1], d[2]));
            Check.due(d[2] == 0 ? 1 : -1, what + " test", () -> x.test(0));
        }
        x.draft(15, MAX, 0);
        Check.due(1, "2: apply", () -> x.apply(0));
        Check.due(MAX, "2: the greatest SEQ of the last SESSION", () -> x.seq(0, 15));
    }

    private static void promise2NoKeysThen() {
        VersionFold x = new VersionFold(4);
        for (int key = 0; key < 16; key++) {
            x.reads(key);
            x.writes(key, 70 + key);
        }
        Check.due(true, "2: draft", () -> x.draft(0, 1, 0));
        Check.due(0, "2: it has no KEYS then", () -> x.look(0, 6));
        Check.due(0, "2: it has no KEYS then", () -> x.look(0, 7));
        x.writes(8, 1);
        Check.due(0x100, "2: but what comes then", () -> x.look(0, 7));
        Check.due(1, "2: apply", () -> x.apply(0));
        Check.due(1, "2: the old VALUES are not written", () -> x.look(0, 5));
        Check.due(0x100, "2: nor their KEYS", () -> x.since(0, 0));
    }

    private static void promises3And4EveryKey() {
        VersionFold x = new VersionFold(4);
        int set = 0;
        for (int k = 0; k < 16; k++) {
            int key = k;
            int before = set;
            set |= 1 << key;
            int after = set;
            Check.due(true, "3: reads " + key, () -> x.reads(key));
            Check.due(after, "3: one more KEY", () -> x.look(0, 6));
            Check.due(before, "3: none in the WRITE SET", () -> x.look(0, 7));
            Check.due(true, "4: writes " + key, () -> x.writes(key, 0));
            Check.due(after, "4: one more KEY", () -> x.look(0, 7));
            Check.due(after, "4: none in the READ SET", () -> x.look(0, 6));
        }
    }

    private static void promises3And4AKeyTwice() {
        VersionFold x = new VersionFold(4);
        for (int times = 0; times < 3; times++) {
            int value = times;
            Check.due(true, "3: reads 15", () -> x.reads(15));
            Check.due(true, "4: writes 15", () -> x.writes(15, value));
            Check.due(0x8000, "3: READ SET", () -> x.look(0, 6));
            Check.due(0x8000, "4: WRITE SET", () -> x.look(0, 7));
        }
        Check.due(1, "4: apply", () -> x.apply(0));
        Check.due(2, "4: the last VALUE", () -> x.value(0, 15, 1));
    }

    private static void promise5SnapshotUpToIndex() {
        for (int i = 0; i <= 20; i++) {
            int index = i;
            VersionFold x = new VersionFold(16);
            Steps.applyEmpty(x, 0, index);
            x.draft(0, 1, index + 1);
            Check.due(-1, "5: SNAPSHOT is INDEX + 1", () -> x.apply(0));
            Check.due(index, "5: INDEX stays", () -> x.look(0, 0));
            Check.due(0, "5: no SEQ", () -> x.seq(0, 0));
            x.draft(0, 1, index);
            Check.due(1, "5: SNAPSHOT is INDEX", () -> x.apply(0));
            Check.due(index + 1, "5: INDEX is 1 more", () -> x.look(0, 0));
            x.draft(0, 1, index + 1);
            Check.due(0, "5: SNAPSHOT is INDEX, SEQ is old", () -> x.apply(0));
            Check.due(index + 2, "5: INDEX is 1 more, too", () -> x.look(0, 0));
        }
    }

    /** Beyond 512 calls answers are free: this holds the program to the limit all the same. */
    private static void promise5TheLastIndex() {
        VersionFold x = new VersionFold(3);
        Steps.applyEmpty(x, 0, 999999);
        x.draft(0, 1, 999999);
        x.writes(0, 5);
        Check.due(1, "6: INDEX 999999", () -> x.test(0));
        Check.due(1, "5: INDEX 999999", () -> x.apply(0));
        Check.due(1000000, "5: INDEX", () -> x.look(0, 0));
        x.draft(0, 2, 999999);
        Check.due(-1, "6: INDEX 1000000", () -> x.test(0));
        Check.due(-1, "5: INDEX 1000000", () -> x.apply(0));
        Check.due(true, "7: take goes on", () -> x.take(0, 1));
        Check.due(-1, "5: INDEX 1000000, taken", () -> x.apply(1));
        Check.due(5, "9: VALUE", () -> x.value(1, 0, 1000000));
        x.clear(0);
        x.draft(0, 2, 0);
        Check.due(1, "5: cleared", () -> x.apply(0));
    }

    private static void promise5TheDraftStays() {
        VersionFold x = new VersionFold(4);
        x.draft(3, 2, 0);
        x.reads(1);
        x.writes(1, 9);
        for (int f = 0; f < 4; f++) {
            int fold = f;
            Check.due(1, "5: the same DRAFT to fold " + fold, () -> x.apply(fold));
            Check.due(2, "5: READ SET stays", () -> x.look(fold, 6));
            Check.due(2, "5: WRITE SET stays", () -> x.look(fold, 7));
            Check.due(9, "5: VALUE", () -> x.value(fold, 1, 1));
            Check.due(true, "5: alike", () -> x.same(0, fold));
        }
        Check.due(0, "5: its SEQ is not above its own", () -> x.apply(3));
    }

    private static void promise6AsApplyThen() {
        VersionFold x = new VersionFold(2);
        int[][] rows = {
            {1, 0, 1}, {1, 0, 0}, {2, 0, 2}, {3, 1, 1}, {4, 5, -1}, {4, 4, 1}, {5, 4, 2}, {6, 5, 1},
            {7, 4, 2}, {7, 8, 0}, {7, 10, -1}
        };
        for (int[] row : rows) {
            int due = row[2];
            String what = "SEQ " + row[0] + ", SNAPSHOT " + row[1];
            x.draft(0, row[0], row[1]);
            x.reads(0);
            x.writes(0, 1);
            Check.due(due, "6: test, " + what, () -> x.test(0));
            Check.due(due, "6: test again, " + what, () -> x.test(0));
            Check.due(due, "5: apply, " + what, () -> x.apply(0));
        }
    }

    private static void promise7IndexAboveThatOfB() {
        for (int index = 0; index <= 3; index++) {
            VersionFold x = new VersionFold(3);
            Steps.applyEmpty(x, 0, index);
            Steps.applyEmpty(x, 1, 2);
            boolean above = index > 2;
            Check.due(above, "7: INDEX " + index + " and 2", () -> x.take(0, 1));
            Check.due(above ? index : 2, "7: INDEX then", () -> x.look(1, 0));
            Check.due(above ? index : 0, "7: HORIZON then", () -> x.look(1, 1));
            Check.due(false, "7: once more", () -> x.take(0, 1));
            Check.due(false, "7: itself", () -> x.take(0, 0));
        }
    }

    private static void promise7HorizonIsIndex() {
        for (int v = 1; v <= 16; v++) {
            VersionFold x = new VersionFold(v);
            for (int i = 1; i <= 20; i++) {
                Steps.commit(x, 0, 0, i, i % 2, i);
            }
            Check.due(true, "7: take", () -> x.take(0, 2));
            Check.due(20, "7: HORIZON is INDEX", () -> x.look(2, 1));
            Check.due(20, "7: VALUE at INDEX", () -> x.value(2, 0, 20));
            Check.due(Check.BAD_ARGUMENT, "7: VALUE below", () -> x.value(2, 0, 19));
            Check.due(20, "7: written at HORIZON", () -> x.written(2, 0));
            Check.due(-1, "7: written one below", () -> x.written(2, 1));
            Check.due(19, "7: a stays", () -> x.written(0, 1));
            Check.due(20 - v, "7: a stays", () -> x.look(0, 1));
            Check.due(19, "7: a stays", () -> x.value(0, 1, 19));
        }
    }

    private static void promise7FoldsPartAgain() {
        VersionFold x = new VersionFold(3);
        Steps.commit(x, 0, 0, 1, 0, 1);
        x.take(0, 1);
        Steps.commit(x, 0, 0, 2, 0, 2);
        Check.due(1, "7: a goes on without b", () -> x.look(1, 0));
        Check.due(1, "7: a goes on without b", () -> x.value(1, 0, 1));
        Check.due(1, "7: a goes on without b", () -> x.seq(1, 0));
        Check.due(1, "7: a goes on without b", () -> x.written(1, 0));
        Steps.commit(x, 1, 5, 1, 0, 3);
        Check.due(2, "7: b goes on without a", () -> x.value(0, 0, 2));
        Check.due(0, "7: b goes on without a", () -> x.seq(0, 5));
        Check.due(3, "7: b goes on", () -> x.value(1, 0, 2));
        Check.due(1, "7: b from its HORIZON", () -> x.value(1, 0, 1));
    }

    private static void promise7TakenTwice() {
        VersionFold x = new VersionFold(4);
        Steps.commit(x, 0, 0, 1, 0, 1);
        x.take(0, 1);
        Steps.commit(x, 1, 0, 2, 1, 2);
        Check.due(true, "7: from one that took", () -> x.take(1, 2));
        Check.due(2, "7: HORIZON of the next", () -> x.look(2, 1));
        Check.due(1, "7: HORIZON of the one that took", () -> x.look(1, 1));
        Check.due(3, "7: WRITE SETS of all", () -> x.since(2, 0));
        Check.due(true, "7: back to the first", () -> x.take(2, 0));
        Check.due(2, "7: HORIZON of the first", () -> x.look(0, 1));
        Check.due(true, "7: alike", () -> x.same(0, 1));
    }

    private static void promise8OfAFoldAsAtFirst() {
        VersionFold x = new VersionFold(3);
        x.clear(0);
        x.clear(0);
        for (int fold = 1; fold < 4; fold++) {
            int other = fold;
            Check.due(true, "8: an empty FOLD cleared", () -> x.same(0, other));
        }
        Check.due(1, "8: the first DRAFT stays", () -> x.apply(0));
    }

    private static void promise8OfATakenFold() {
        VersionFold x = new VersionFold(2);
        for (int i = 1; i <= 20; i++) {
            Steps.commit(x, 0, i % 16, i, i % 16, i);
        }
        Steps.applyRead(x, 0, 50, 0);
        x.apply(0);
        x.take(0, 3);
        Check.due(1, "8: one was neither before", () -> x.look(3, 4));
        x.clear(3);
        for (int w = 0; w < 6; w++) {
            int which = w;
            Check.due(0, "8: look " + which, () -> x.look(3, which));
        }
        for (int i = 0; i < 16; i++) {
            int n = i;
            Check.due(0, "8: VALUE", () -> x.value(3, n, 0));
            Check.due(-1, "8: written", () -> x.written(3, n));
            Check.due(0, "8: SEQ", () -> x.seq(3, n));
            Check.due(0, "8: VERDICT", () -> x.verdict(3, n));
        }
        Check.due(0, "8: since", () -> x.since(3, -2));
        Check.due(22, "8: others stay", () -> x.look(0, 0));
        Check.due(Check.BAD_ARGUMENT, "8: no later INDEX", () -> x.value(3, 0, 1));
    }

    private static void promise8ClearedFoldsBeginAgain() {
        VersionFold x = new VersionFold(2);
        Steps.commit(x, 0, 0, 5, 6, 60);
        Steps.commit(x, 0, 0, 6, 6, 61);
        x.clear(0);
        Check.due(1, "8: no write aborts a SNAPSHOT 0", () -> Steps.applyRead(x, 0, 1, 6));
        x.draft(0, 1, 0);
        Check.due(1, "8: SEQ 1 is above none", () -> x.apply(0));
        for (int i = 0; i <= 2; i++) {
            int index = i;
            Check.due(0, "8: VALUE at " + index, () -> x.value(0, 6, index));
        }
        Check.due(0, "8: HORIZON", () -> x.look(0, 1));
    }

    private static void promise9HorizonAndIndex() {
        for (int v = 1; v <= 16; v++) {
            VersionFold x = new VersionFold(v);
            for (int i = 1; i <= 30; i++) {
                Steps.commit(x, 1, 0, i, 9, -i);
            }
            int horizon = 30 - v;
            String what = "9: V " + v;
            Check.due(-horizon, what + " at HORIZON", () -> x.value(1, 9, horizon));
            Check.due(-30, what + " at INDEX", () -> x.value(1, 9, 30));
            // One more than 16 and its multiples: where rows that are used again would lie.
            for (int none : new int[] {MIN, -17, -1, 0, 13, horizon - 1, 31, 47, MAX}) {
                Check.due(Check.BAD_ARGUMENT, what + " at " + none, () -> x.value(1, 9, none));
            }
        }
    }

    private static void promises10And11NoneAtFirst() {
        VersionFold x = new VersionFold(4);
        x.draft(7, 3, 0);
        x.apply(1);
        for (int s = 0; s < 16; s++) {
            int session = s;
            Check.due(session == 7 ? 3 : 0, "10: SEQ of " + session, () -> x.seq(1, session));
            Check.due(session == 7 ? 1 : 0, "11: VERDICT of " + session,
                    () -> x.verdict(1, session));
            Check.due(0, "10: of another FOLD", () -> x.seq(0, session));
            Check.due(0, "11: of another FOLD", () -> x.verdict(0, session));
        }
    }

    private static void promise12FromHorizonToIndex() {
        for (int v = 1; v <= 16; v++) {
            VersionFold x = new VersionFold(v);
            Check.due(-1, "12: never, HORIZON is 0", () -> x.written(0, 3));
            Steps.commit(x, 0, 0, 1, 3, 0);
            Check.due(1, "12: at INDEX", () -> x.written(0, 3));
            Steps.applyEmpty(x, 0, v);
            Check.due(1, "12: HORIZON", () -> x.look(0, 1));
            Check.due(1, "12: at HORIZON, V " + v, () -> x.written(0, 3));
            Steps.applyEmpty(x, 0, 1);
            Check.due(-1, "12: one below HORIZON, V " + v, () -> x.written(0, 3));
            Steps.commit(x, 0, 0, 2, 3, 0);
            Steps.commit(x, 0, 0, 3, 3, 0);
            Check.due(v + 4, "12: the greatest INDEX", () -> x.written(0, 3));
        }
    }

    private static void promise12NotByOthersThanCommitted() {
        VersionFold x = new VersionFold(16);
        Steps.commit(x, 0, 0, 1, 3, 1);
        x.draft(0, 1, 1);
        x.writes(3, 2);
        Check.due(0, "12: SEQ is old", () -> x.apply(0));
        x.draft(0, 2, 0);
        x.reads(3);
        x.writes(3, 3);
        x.writes(4, 3);
        Check.due(2, "12: aborted", () -> x.apply(0));
        Check.due(1, "12: by the committed one", () -> x.written(0, 3));
        Check.due(-1, "12: by none", () -> x.written(0, 4));
        Check.due(8, "13: by the committed one", () -> x.since(0, 0));
        Check.due(0, "13: by none", () -> x.since(0, 1));
    }

    private static void promise13FromIndexLessVToIndex() {
        for (int v = 1; v <= 16; v++) {
            for (int i = 0; i <= v + 2; i++) {
                int index = i;
                VersionFold x = new VersionFold(v);
                for (int seq = 1; seq <= index; seq++) {
                    Steps.commit(x, 0, 0, seq, seq % 16, 0);
                }
                String what = "13: V " + v + ", INDEX " + index + " since ";
                for (int from = index - v; from <= index; from++) {
                    int at = from;
                    Check.due(keysOf(at, index), what + at, () -> x.since(0, at));
                }
                for (int none : new int[] {MIN, index - v - 1, index + 1, MAX}) {
                    Check.due(Check.BAD_ARGUMENT, what + none, () -> x.since(0, none));
                }
            }
        }
    }

    /** The KEYS that are written above an INDEX if KEY i % 16 is written at each INDEX i. */
    private static int keysOf(int above, int index) {
        int keys = 0;
        for (int i = Math.max(1, above + 1); i <= index; i++) {
            keys |= 1 << i % 16;
        }
        return keys;
    }

    private static void promise13AfterTake() {
        VersionFold x = new VersionFold(3);
        for (int i = 1; i <= 6; i++) {
            Steps.commit(x, 0, 0, i, i, i);
        }
        x.take(0, 1);
        Check.due(6, "13: HORIZON", () -> x.look(1, 1));
        Check.due(0x70, "13: INDEX - V, though below HORIZON", () -> x.since(1, 3));
        Check.due(Check.BAD_ARGUMENT, "13: below INDEX - V", () -> x.since(1, 2));
        Check.due(2, "5: SNAPSHOT below HORIZON", () -> {
            x.draft(1, 1, 3);
            x.reads(4);
            return x.test(1);
        });
        Check.due(1, "5: SNAPSHOT below HORIZON", () -> {
            x.draft(1, 1, 3);
            x.reads(3);
            return x.test(1);
        });
    }

    private static void promise14AtFirstAndItself() {
        VersionFold x = new VersionFold(16);
        for (int a = 0; a < 4; a++) {
            for (int b = 0; b < 4; b++) {
                dueSame(true, "14: at first", x, a, b);
            }
        }
        Steps.commit(x, 2, 15, 1, 15, 0);
        for (int other = 0; other < 4; other++) {
            dueSame(other == 2, "14: one is ahead", x, 2, other);
        }
        Steps.applyEmpty(x, 0, 1);
        Steps.applyEmpty(x, 1, 2);
        dueSame(false, "14: INDEX alone", x, 0, 1);
    }

    private static void dueSame(boolean want, String what, VersionFold x, int a, int b) {
        Check.due(want, what, () -> x.same(a, b));
        Check.due(want, what + ", the other way round", () -> x.same(b, a));
    }

    /** FOLDS 0 and 1 got the same but for one thing, of the first or the last KEY or SESSION. */
    private static void promise14OneDifference() {
        for (int n : new int[] {0, 7, 15}) {
            int[][] others = {{n, 5, n, 9}, {n, 4, n, 8}, {n, 4, n, 10}, {(n + 1) % 16, 4, n, 9},
                {n, 4, (n + 1) % 16, 9}};
            for (int i = 0; i < others.length; i++) {
                VersionFold x = new VersionFold(4);
                Steps.commit(x, 0, n, 4, n, 9);
                Steps.commit(x, 1, others[i][0], others[i][1], others[i][2], others[i][3]);
                dueSame(false, "14: SESSION, SEQ, KEY, VALUE, row " + i, x, 0, 1);
            }
            verdictsAloneDiffer(n);
        }
    }

    private static void verdictsAloneDiffer(int session) {
        VersionFold x = new VersionFold(4);
        for (int fold = 0; fold < 2; fold++) {
            Steps.commit(x, fold, 3, 1, 2, 9);
            x.draft(session, 1, fold);
            x.reads(2);
            x.apply(fold);
        }
        Check.due(2, "14: aborted", () -> x.verdict(0, session));
        Check.due(1, "14: committed", () -> x.verdict(1, session));
        dueSame(false, "14: VERDICT alone", x, 0, 1);
    }

    private static void promise14AlikeAllTheSame() {
        VersionFold x = new VersionFold(4);
        Steps.commit(x, 0, 0, 1, 2, 5);
        Steps.commit(x, 0, 0, 2, 2, 6);
        Steps.commit(x, 1, 0, 1, 2, 7);
        Steps.commit(x, 1, 0, 2, 2, 6);
        dueSame(true, "14: VALUES as they were are not named", x, 0, 1);
        x.take(0, 2);
        dueSame(true, "14: HORIZON is not named", x, 0, 2);
        x.clear(1);
        x.draft(0, 2, 0);
        x.apply(1);
        x.draft(0, 1, 0);
        x.apply(1);
        x.clear(0);
        x.apply(0);
        x.draft(0, 2, 0);
        x.apply(0);
        Check.due(2, "14: committed", () -> x.look(0, 2));
        Check.due(1, "14: committed", () -> x.look(1, 2));
        dueSame(true, "14: how many were committed is not named", x, 0, 1);
    }

    /** FOLD 0 wrote a KEY at INDEX 1, FOLD 1 did not: since tells it till INDEX - V is 1. */
    private static void promise14SinceAtTheOldest() {
        for (int v = 1; v <= 16; v++) {
            VersionFold x = new VersionFold(v);
            Steps.commit(x, 0, 14, 1, 5, 0);
            x.draft(14, 1, 0);
            x.apply(1);
            for (int index = 1; index <= v + 2; index++) {
                String what = "14: V " + v + ", INDEX " + index;
                dueSame(index - v >= 1, what, x, 0, 1);
                Steps.applyEmpty(x, 0, 1);
                Steps.applyEmpty(x, 1, 1);
            }
        }
    }

    private static void promise14SinceBelowHorizon() {
        VersionFold x = new VersionFold(2);
        Steps.commit(x, 0, 14, 1, 5, 0);
        x.draft(14, 1, 0);
        x.apply(1);
        for (int fold = 0; fold < 2; fold++) {
            Steps.applyEmpty(x, fold, 1);
            x.take(fold, fold + 2);
        }
        Check.due(2, "14: HORIZON", () -> x.look(2, 1));
        dueSame(false, "14: since can be asked below HORIZON", x, 2, 3);
    }

    private static void promise15EveryWhich() {
        VersionFold x = new VersionFold(1);
        Steps.commit(x, 3, 0, 1, 0, 40);
        x.apply(3);
        x.apply(3);
        x.apply(3);
        x.draft(0, 2, 0);
        x.apply(3);
        x.draft(0, 3, 1);
        x.apply(3);
        x.draft(0, 4, 6);
        x.reads(4);
        x.writes(3, 2);
        x.apply(3);
        Steps.commit(x, 3, 0, 5, 1, 1);
        x.draft(0, 6, 99);
        x.reads(0);
        x.writes(15, 1);
        Check.due(-1, "15: NONE counts nowhere", () -> x.apply(3));
        int[] looks = {8, 7, 3, 2, 3, 43, 1, 0x8000};
        for (int w = 0; w < looks.length; w++) {
            int which = w;
            Check.due(looks[which], "15: look " + which, () -> x.look(3, which));
            Check.due(which < 6 ? 0 : looks[which], "15: of fold 0, look " + which,
                    () -> x.look(0, which));
        }
        for (int other : new int[] {-1, -2, 8, 9, 256, MIN, MAX}) {
            Check.due(-1, "15: any other which: " + other, () -> x.look(3, other));
        }
    }

    private static void promise15TheSumWraps() {
        int[][] valuesAndSums = {
            {MAX, 1, MIN}, {MIN, -1, MAX}, {MIN, MIN, 0}, {MAX, MAX, -2}, {0, -1, -1}
        };
        for (int[] row : valuesAndSums) {
            VersionFold x = new VersionFold(4);
            Steps.commit(x, 0, 0, 1, 0, row[0]);
            Steps.commit(x, 0, 0, 2, 15, row[1]);
            Check.due(row[2], "15: " + row[0] + " and " + row[1], () -> x.look(0, 5));
        }
    }

    /** VALUES as they were, of which more are kept at each INDEX, are not in the sum. */
    private static void promise15TheSumIsOfTheValuesNow() {
        for (int v = 1; v <= 16; v++) {
            VersionFold x = new VersionFold(v);
            int[] now = new int[16];
            for (int i = 1; i <= 60; i++) {
                int key = i % 16;
                now[key] = i * i;
                Steps.commit(x, 0, 0, i, key, now[key]);
                int sum = IntStream.of(now).sum();
                Check.due(sum, "15: V " + v + ", sum at INDEX " + i, () -> x.look(0, 5));
            }
        }
    }

    /** The 512th call still answers, with as much behind it as 511 calls can bring about. */
    private static void allOf512Calls() {
        VersionFold x = new VersionFold(16);
        x.draft(0, 1, 0);
        x.writes(0, 5);
        for (int i = 3; i <= 511; i++) {
            x.apply(0);
        }
        Check.due(509, "the 512th call", () -> x.look(0, 0));
    }
}
