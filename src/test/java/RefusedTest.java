import java.util.function.Function;
import java.util.function.Supplier;

/**
 * "What answers false or NONE, or throws, changes nothing. Of several exceptions the first one
 * listed is thrown": each call that can be refused, in a state where a change would be seen.
 */
public final class RefusedTest {
    private static final int[] NO_FOLDS = Steps.NO_FOLDS;
    private static final int[] NOT_0_TO_15 = Steps.NOT_0_TO_15;
    private static final int MAX = Steps.MAX;
    private static final int MIN = Steps.MIN;

    private RefusedTest() {
    }

    public static void main(String[] args) {
        busyIsAsTheTestsTakeIt();
        draftOfNoSession();
        draftOfWrongSeqOrSnapshot();
        readsAndWritesOfNoKey();
        applyAndTestAnswerNone();
        applyAndTestAtTheLastIndex();
        testChangesNothing();
        takeIsRefused();
        valueOfNoKey();
        valueAtNoIndex();
        seqAndVerdictOfNoSession();
        writtenIsRefused();
        sinceIsRefused();
        lookAtNothing();
        noFoldFirstOfAll();
        noFoldBeforeNoneAndFalse();
        refusedAtFirst();
        Check.end();
    }

    /**
     * V is 3. FOLD 0 is at INDEX 5 with HORIZON 2, FOLD 1 at 6 with HORIZON 5, FOLDS 2 and 3 at 2.
     * FOLDS 0 and 1 would commit the DRAFT, but abort it if its SNAPSHOT were below 5.
     */
    private static VersionFold busy() {
        VersionFold x = new VersionFold(3);
        Steps.commit(x, 0, 0, 1, 2, 20);
        Steps.commit(x, 0, 1, 3, 15, -7);
        Steps.applyRead(x, 0, 4, 2);
        x.apply(0);
        Steps.commit(x, 0, 3, 9, 2, MAX);
        x.take(0, 1);
        Steps.commit(x, 1, 5, 1, 8, 8);
        for (int fold = 2; fold < 4; fold++) {
            Steps.commit(x, fold, 0, 1, 2, fold);
            Steps.commit(x, fold, fold, 2, 3, 1);
        }
        x.draft(4, 7, 5);
        x.reads(2);
        x.reads(15);
        x.writes(0, MIN);
        x.writes(9, -1);
        return x;
    }

    private static void busyIsAsTheTestsTakeIt() {
        VersionFold x = busy();
        int[][] due = {
            {5, 2, 3, 1, 1, 1}, {6, 5, 4, 1, 1, 1}, {2, 0, 2, 0, 0, -1}, {2, 0, 2, 0, 0, -1}
        };
        for (int f = 0; f < 4; f++) {
            int fold = f;
            for (int w = 0; w < 5; w++) {
                int which = w;
                Check.due(due[fold][which], "fold " + fold + " look " + which,
                        () -> x.look(fold, which));
            }
            Check.due(due[fold][5], "test by fold " + fold, () -> x.test(fold));
        }
    }

    private static void refused(Object want, String what, Function<VersionFold, Object> call) {
        Picture.dueUnchanged(want, what, RefusedTest::busy, call);
    }

    private static void draftOfNoSession() {
        for (int none : NOT_0_TO_15) {
            refused(false, "2: there is no such SESSION " + none, x -> x.draft(none, 8, 4));
        }
        refused(false, "2: all wrong", x -> x.draft(-1, 0, -1));
    }

    private static void draftOfWrongSeqOrSnapshot() {
        for (int below : new int[] {0, -1, MIN}) {
            refused(false, "2: SEQ is below 1: " + below, x -> x.draft(3, below, 4));
        }
        for (int below : new int[] {-1, -2, MIN}) {
            refused(false, "2: SNAPSHOT below 0: " + below, x -> x.draft(3, 8, below));
        }
    }

    private static void readsAndWritesOfNoKey() {
        for (int none : NOT_0_TO_15) {
            refused(false, "3: reads of no KEY " + none, x -> x.reads(none));
            refused(false, "4: writes of no KEY " + none, x -> x.writes(none, 33));
        }
    }

    private static void applyAndTestAnswerNone() {
        for (int f = 2; f < 4; f++) {
            int fold = f;
            refused(-1, "5: the SNAPSHOT is above the INDEX", x -> x.apply(fold));
            refused(-1, "6: the SNAPSHOT is above the INDEX", x -> x.test(fold));
        }
        Supplier<VersionFold> oneAbove = () -> withDraft(6, 6);
        Picture.dueUnchanged(-1, "5: one above, though SEQ is new", oneAbove, x -> x.apply(0));
        Supplier<VersionFold> oldSeq = () -> withDraft(1, 6);
        Picture.dueUnchanged(-1, "5: one above, though SEQ is old", oldSeq, x -> x.apply(0));
        Picture.dueUnchanged(-1, "6: one above, though SEQ is old", oldSeq, x -> x.test(0));
        Supplier<VersionFold> farAbove = () -> withDraft(6, MAX);
        Picture.dueUnchanged(-1, "5: far above", farAbove, x -> x.apply(0));
    }

    /** SESSION 1 has the SEQ 4 in FOLD 0, of a REQUEST that was aborted. */
    private static VersionFold withDraft(int seq, int snapshot) {
        VersionFold x = busy();
        x.draft(1, seq, snapshot);
        x.reads(3);
        x.writes(2, 5);
        return x;
    }

    /** Beyond 512 calls answers are free: this holds the program to the limit all the same. */
    private static void applyAndTestAtTheLastIndex() {
        for (int seq : new int[] {1, 2}) {
            Supplier<VersionFold> last = () -> atTheLastIndex(seq);
            Picture.dueUnchanged(-1, "5: the INDEX is 1000000, SEQ " + seq, last, x -> x.apply(0));
            Picture.dueUnchanged(-1, "6: the INDEX is 1000000, SEQ " + seq, last, x -> x.test(0));
        }
    }

    private static VersionFold atTheLastIndex(int seq) {
        VersionFold x = new VersionFold(3);
        Steps.applyEmpty(x, 0, 1000000);
        x.draft(14, seq, 1000000);
        x.writes(0, 6);
        return x;
    }

    private static void testChangesNothing() {
        refused(1, "6: would commit", x -> x.test(0));
        Picture.dueUnchanged(0, "6: SEQ is not above", () -> withDraft(4, 5), x -> x.test(0));
        Picture.dueUnchanged(2, "6: SNAPSHOT too old", () -> withDraft(5, 1), x -> x.test(0));
    }

    private static void takeIsRefused() {
        refused(false, "7: the INDEX of a is one below", x -> x.take(0, 1));
        refused(false, "7: far below", x -> x.take(2, 0));
        refused(false, "7: the same INDEX", x -> x.take(2, 3));
        refused(false, "7: the same INDEX", x -> x.take(3, 2));
        for (int f = 0; f < 4; f++) {
            int fold = f;
            refused(false, "7: itself, " + fold, x -> x.take(fold, fold));
        }
    }

    private static void valueOfNoKey() {
        for (int none : NOT_0_TO_15) {
            refused(Check.BAD_ARGUMENT, "9: no such KEY " + none, x -> x.value(0, none, 5));
            refused(Check.BAD_ARGUMENT, "9: nor INDEX", x -> x.value(0, none, 6));
        }
    }

    private static void valueAtNoIndex() {
        for (int none : new int[] {1, 0, -1, MIN}) {
            refused(Check.BAD_ARGUMENT, "9: below HORIZON: " + none, x -> x.value(0, 2, none));
        }
        for (int none : new int[] {6, 19, 22, MAX}) {
            refused(Check.BAD_ARGUMENT, "9: above INDEX: " + none, x -> x.value(0, 2, none));
        }
        refused(Check.BAD_ARGUMENT, "9: below HORIZON, not INDEX - V", x -> x.value(1, 2, 4));
    }

    private static void seqAndVerdictOfNoSession() {
        for (int none : NOT_0_TO_15) {
            refused(Check.BAD_ARGUMENT, "10: no such SESSION " + none, x -> x.seq(0, none));
            refused(Check.BAD_ARGUMENT, "11: no such SESSION " + none, x -> x.verdict(0, none));
        }
    }

    private static void writtenIsRefused() {
        for (int none : NOT_0_TO_15) {
            refused(Check.BAD_ARGUMENT, "12: no such KEY " + none, x -> x.written(0, none));
        }
        refused(-1, "12: never written", x -> x.written(0, 9));
        refused(-1, "12: not since HORIZON", x -> x.written(1, 15));
    }

    private static void sinceIsRefused() {
        for (int none : new int[] {1, 0, -1, MIN}) {
            refused(Check.BAD_ARGUMENT, "13: below INDEX - V: " + none, x -> x.since(0, none));
        }
        for (int none : new int[] {6, 7, MAX}) {
            refused(Check.BAD_ARGUMENT, "13: above INDEX: " + none, x -> x.since(0, none));
        }
    }

    private static void lookAtNothing() {
        for (int other : new int[] {-1, 8, 9, MIN, MAX}) {
            refused(-1, "15: any other which: " + other, x -> x.look(0, other));
        }
        refused(false, "14: not alike", x -> x.same(0, 1));
    }

    private static void noFoldFirstOfAll() {
        for (int none : NO_FOLDS) {
            noFold("5: apply", x -> x.apply(none));
            noFold("6: test", x -> x.test(none));
            noFold("8: clear", x -> { x.clear(none); return ""; });
            noFold("9: value", x -> x.value(none, 2, 2));
            noFold("9: value of no KEY", x -> x.value(none, 16, 2));
            noFold("9: value at no INDEX", x -> x.value(none, 2, -1));
            noFold("10: seq", x -> x.seq(none, 0));
            noFold("10: seq of no SESSION", x -> x.seq(none, 16));
            noFold("11: verdict", x -> x.verdict(none, 0));
            noFold("11: verdict of no SESSION", x -> x.verdict(none, -1));
            noFold("12: written", x -> x.written(none, 2));
            noFold("12: written of no KEY", x -> x.written(none, 16));
            noFold("13: since", x -> x.since(none, 2));
            noFold("13: since at no INDEX", x -> x.since(none, MAX));
        }
    }

    /** A second FOLD is looked at as the first one is; and a FOLD before all that answers. */
    private static void noFoldBeforeNoneAndFalse() {
        for (int none : NO_FOLDS) {
            noFold("7: take by none", x -> x.take(1, none));
            noFold("7: take by none, a below all", x -> x.take(2, none));
            noFold("7: take from none", x -> x.take(none, 2));
            noFold("7: take, both none", x -> x.take(none, none));
            noFold("14: same, b is none", x -> x.same(0, none));
            noFold("14: same, a is none", x -> x.same(none, 0));
            noFold("14: same, both none", x -> x.same(none, none));
            noFold("15: look", x -> x.look(none, 0));
            noFold("15: look at the DRAFT", x -> x.look(none, 7));
            noFold("15: look at nothing", x -> x.look(none, 8));
        }
    }

    private static void noFold(String what, Function<VersionFold, Object> call) {
        refused(Check.NO_FOLD, what, call);
    }

    private static void refusedAtFirst() {
        Supplier<VersionFold> made = () -> new VersionFold(3);
        Picture.dueUnchanged(false, "2: at first", made, x -> x.draft(0, 0, 0));
        Picture.dueUnchanged(false, "3: at first", made, x -> x.reads(16));
        Picture.dueUnchanged(false, "4: at first", made, x -> x.writes(-1, 1));
        Picture.dueUnchanged(1, "6: at first", made, x -> x.test(0));
        Picture.dueUnchanged(false, "7: at first", made, x -> x.take(0, 1));
        Picture.dueUnchanged(Check.NO_FOLD, "5: at first", made, x -> x.apply(4));
        Picture.dueUnchanged(Check.NO_FOLD, "7: at first", made, x -> x.take(0, 4));
        Picture.dueUnchanged(Check.NO_FOLD, "7: at first", made, x -> x.take(4, 0));
        Picture.dueUnchanged(Check.BAD_ARGUMENT, "9: at first", made, x -> x.value(0, 0, 1));
        Picture.dueUnchanged(Check.BAD_ARGUMENT, "9: at first", made, x -> x.value(0, 0, -1));
        Picture.dueUnchanged(-1, "12: at first", made, x -> x.written(0, 0));
        Picture.dueUnchanged(Check.BAD_ARGUMENT, "13: at first", made, x -> x.since(0, 1));
        Picture.dueUnchanged(Check.BAD_ARGUMENT, "13: at first", made, x -> x.since(0, -4));
    }
}
