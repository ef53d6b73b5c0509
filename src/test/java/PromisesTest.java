/** Each promise of DOC.md by its number, as it is mostly used; edges have tests of their own. */
public final class PromisesTest {
    private PromisesTest() {
    }

    public static void main(String[] args) {
        promise1NewObject();
        promise2Draft();
        promise3Reads();
        promise4Writes();
        promise5Apply();
        promise5ApplyOfSeqNotAbove();
        promise5ApplyAnswersNone();
        promise5ApplyOfOldSnapshot();
        promise5ApplyOfStaleReads();
        promise6Test();
        promise7Take();
        promise7TakeRefused();
        promise7TakenFoldGoesOn();
        promise8Clear();
        promise9Value();
        promises10And11SeqAndVerdict();
        promise12Written();
        promise13Since();
        promise14Same();
        promise14SameForgetsOldWrites();
        promise15Look();
        theExampleInTheReadme();
        Check.end();
    }

    private static void promise1NewObject() {
        VersionFold x = new VersionFold(4);
        for (int f = 0; f < 4; f++) {
            int fold = f;
            dueFresh("1: new object", x, fold);
            for (int other = 0; other < 4; other++) {
                int b = other;
                Check.due(true, "1: same", () -> x.same(fold, b));
            }
        }
        Check.due(0, "1: READ SET at first", () -> x.look(0, 6));
        Check.due(0, "1: WRITE SET at first", () -> x.look(0, 7));
        // The first DRAFT has SESSION 0, SEQ 1 and SNAPSHOT 0 with nothing said of them.
        Check.due(1, "1: apply of the first draft", () -> x.apply(0));
        Check.due(1, "1: its SEQ", () -> x.seq(0, 0));
        Check.due(1, "1: its VERDICT", () -> x.verdict(0, 0));
        Check.due(0, "1: other SESSIONS", () -> x.seq(0, 1));
    }

    private static void dueFresh(String label, VersionFold x, int fold) {
        for (int which = 0; which < 6; which++) {
            int w = which;
            Check.due(0, label + " look " + w, () -> x.look(fold, w));
        }
        for (int i = 0; i < 16; i++) {
            int n = i;
            Check.due(0, label + " value", () -> x.value(fold, n, 0));
            Check.due(-1, label + " written", () -> x.written(fold, n));
            Check.due(0, label + " seq", () -> x.seq(fold, n));
            Check.due(0, label + " verdict", () -> x.verdict(fold, n));
        }
        Check.due(0, label + " since", () -> x.since(fold, 0));
        Check.due(0, label + " since below 0", () -> x.since(fold, -1));
    }

    private static void promise2Draft() {
        VersionFold x = new VersionFold(4);
        Check.due(true, "2: reads", () -> x.reads(3));
        Check.due(true, "2: writes", () -> x.writes(4, 9));
        Check.due(true, "2: draft", () -> x.draft(15, Steps.MAX, 0));
        Check.due(0, "2: no KEYS read", () -> x.look(0, 6));
        Check.due(0, "2: no KEYS written", () -> x.look(0, 7));
        Check.due(1, "2: apply", () -> x.apply(0));
        Check.due(0, "2: the dropped write", () -> x.value(0, 4, 1));
        Check.due(Steps.MAX, "2: SEQ", () -> x.seq(0, 15));
        Check.due(1, "2: VERDICT", () -> x.verdict(0, 15));
        Check.due(true, "2: the least draft", () -> x.draft(0, 1, 0));
        Check.due(true, "2: SNAPSHOT above all", () -> x.draft(0, 1, Steps.MAX));
        Check.due(-1, "2: test", () -> x.test(0));
    }

    private static void promise3Reads() {
        VersionFold x = new VersionFold(4);
        Check.due(true, "3: reads", () -> x.reads(0));
        Check.due(true, "3: reads", () -> x.reads(15));
        Check.due(true, "3: reads again", () -> x.reads(15));
        Check.due(0x8001, "3: READ SET", () -> x.look(0, 6));
        for (int none : Steps.NOT_0_TO_15) {
            Check.due(false, "3: reads " + none, () -> x.reads(none));
        }
        Check.due(0x8001, "3: READ SET stays", () -> x.look(3, 6));
        Check.due(0, "3: WRITE SET stays", () -> x.look(3, 7));
    }

    private static void promise4Writes() {
        VersionFold x = new VersionFold(4);
        Check.due(true, "4: writes", () -> x.writes(0, Steps.MIN));
        Check.due(true, "4: writes", () -> x.writes(15, 5));
        Check.due(true, "4: writes again", () -> x.writes(15, 6));
        Check.due(0x8001, "4: WRITE SET", () -> x.look(0, 7));
        for (int none : Steps.NOT_0_TO_15) {
            Check.due(false, "4: writes " + none, () -> x.writes(none, 77));
        }
        Check.due(0x8001, "4: WRITE SET stays", () -> x.look(2, 7));
        Check.due(0, "4: READ SET stays", () -> x.look(2, 6));
        Check.due(1, "4: apply", () -> x.apply(1));
        Check.due(Steps.MIN, "4: VALUE", () -> x.value(1, 0, 1));
        Check.due(6, "4: the later VALUE", () -> x.value(1, 15, 1));
        Check.due(0, "4: another KEY", () -> x.value(1, 14, 1));
    }

    private static void promise5Apply() {
        VersionFold x = new VersionFold(4);
        x.draft(2, 3, 0);
        x.reads(1);
        x.writes(1, 11);
        x.writes(9, -9);
        Check.due(1, "5: apply", () -> x.apply(3));
        Check.due(1, "5: INDEX", () -> x.look(3, 0));
        Check.due(11, "5: VALUE", () -> x.value(3, 1, 1));
        Check.due(-9, "5: VALUE", () -> x.value(3, 9, 1));
        Check.due(3, "5: SEQ", () -> x.seq(3, 2));
        Check.due(0, "5: other folds stay", () -> x.look(0, 0));
        Check.due(2, "5: the DRAFT stays", () -> x.look(3, 6));
        Check.due(0x202, "5: the DRAFT stays", () -> x.look(3, 7));
        Check.due(1, "5: apply to another fold", () -> x.apply(0));
        Check.due(true, "5: they are alike", () -> x.same(0, 3));
    }

    private static void promise5ApplyOfSeqNotAbove() {
        VersionFold x = new VersionFold(1);
        Steps.commit(x, 0, 2, 5, 0, 1);
        for (int seq : new int[] {5, 4, 1}) {
            x.draft(2, seq, 0);
            x.reads(0);
            x.writes(0, 99);
            Check.due(0, "5: apply of seq " + seq, () -> x.apply(0));
        }
        Check.due(4, "5: INDEX", () -> x.look(0, 0));
        Check.due(3, "5: HORIZON", () -> x.look(0, 1));
        Check.due(1, "5: VALUE stays", () -> x.value(0, 0, 4));
        Check.due(5, "5: SEQ stays", () -> x.seq(0, 2));
        Check.due(1, "5: VERDICT stays", () -> x.verdict(0, 2));
        Check.due(0, "5: no write", () -> x.since(0, 3));
        Check.due(3, "5: neither", () -> x.look(0, 4));
        x.draft(3, 1, 4);
        Check.due(1, "5: another SESSION has its own SEQ", () -> x.apply(0));
    }

    private static void promise5ApplyAnswersNone() {
        VersionFold x = new VersionFold(4);
        x.draft(0, 1, 1);
        x.writes(0, 1);
        Check.due(-1, "5: SNAPSHOT above INDEX", () -> x.apply(0));
        dueFresh("5: NONE changes nothing", x, 0);
        Steps.commit(x, 0, 0, 9, 0, 1);
        x.draft(0, 1, 2);
        Check.due(-1, "5: NONE though SEQ is not above", () -> x.apply(0));
        Check.due(1, "5: INDEX stays", () -> x.look(0, 0));
        Check.due(0, "5: no more neither", () -> x.look(0, 4));
        x.draft(0, 10, 1);
        Check.due(1, "5: SNAPSHOT is INDEX", () -> x.apply(0));
    }

    private static void promise5ApplyOfOldSnapshot() {
        for (int v = 1; v <= 16; v++) {
            VersionFold x = new VersionFold(v);
            int old = 20 - v - 1;
            Steps.applyEmpty(x, 0, 20);
            x.draft(1, 1, old);
            x.writes(3, 7);
            Check.due(2, "5: SNAPSHOT too old, V " + v, () -> x.apply(0));
            Check.due(0, "5: nothing written", () -> x.value(0, 3, 21));
            Check.due(-1, "5: nothing written", () -> x.written(0, 3));
            Check.due(1, "5: SEQ of the aborted", () -> x.seq(0, 1));
            Check.due(2, "5: VERDICT of the aborted", () -> x.verdict(0, 1));
            Check.due(1, "5: aborted", () -> x.look(0, 3));
            Check.due(0, "5: the aborted again", () -> x.apply(0));
            x.draft(1, 2, 22 - v);
            x.writes(3, 7);
            Check.due(1, "5: the oldest SNAPSHOT, V " + v, () -> x.apply(0));
            Check.due(7, "5: written", () -> x.value(0, 3, 23));
        }
    }

    private static void promise5ApplyOfStaleReads() {
        VersionFold x = new VersionFold(16);
        Steps.commit(x, 0, 0, 1, 4, 1);
        Steps.commit(x, 0, 0, 2, 5, 1);
        Check.due(2, "5: read key written above SNAPSHOT", () -> Steps.applyRead(x, 0, 1, 4));
        Check.due(1, "5: written at the SNAPSHOT", () -> Steps.applyRead(x, 1, 2, 4));
        Check.due(2, "5: written one above SNAPSHOT", () -> Steps.applyRead(x, 1, 3, 5));
        Check.due(1, "5: never written", () -> Steps.applyRead(x, 0, 4, 6));
        x.draft(2, 1, 0);
        x.reads(5);
        x.writes(6, 1);
        Check.due(2, "5: aborted writer", () -> x.apply(0));
        Check.due(1, "5: an aborted write makes no conflict", () -> Steps.applyRead(x, 0, 5, 6));
        x.draft(0, 2, 0);
        x.writes(7, 1);
        Check.due(0, "5: writer with old SEQ", () -> x.apply(0));
        Check.due(1, "5: its write makes no conflict", () -> Steps.applyRead(x, 0, 6, 7));
        x.draft(3, 1, 0);
        x.writes(4, 2);
        x.writes(5, 2);
        Check.due(1, "5: writes alone make no conflict", () -> x.apply(0));
    }

    private static void promise6Test() {
        VersionFold x = new VersionFold(2);
        x.draft(0, 1, 0);
        x.reads(0);
        x.writes(0, 5);
        Check.due(1, "6: would commit", () -> x.test(0));
        dueFresh("6: test changes nothing", x, 0);
        Check.due(1, "6: READ SET stays", () -> x.look(0, 6));
        x.apply(0);
        Check.due(0, "6: SEQ is not above", () -> x.test(0));
        Check.due(1, "6: by another fold", () -> x.test(1));
        x.draft(0, 2, 0);
        x.reads(0);
        Check.due(2, "6: stale read", () -> x.test(0));
        x.draft(0, 2, 2);
        Check.due(-1, "6: SNAPSHOT above INDEX", () -> x.test(0));
        Steps.applyEmpty(x, 0, 2);
        x.draft(0, 2, 0);
        Check.due(2, "6: old SNAPSHOT", () -> x.test(0));
        x.draft(0, 2, 1);
        Check.due(1, "6: the oldest SNAPSHOT", () -> x.test(0));
        Check.due(3, "6: INDEX stays", () -> x.look(0, 0));
        Check.due(1, "6: SEQ stays", () -> x.seq(0, 0));
    }

    private static void promise7Take() {
        VersionFold x = new VersionFold(3);
        Steps.commit(x, 0, 1, 4, 2, 20);
        x.draft(2, 6, 0);
        x.reads(2);
        x.apply(0);
        x.apply(0);
        Steps.commit(x, 0, 1, 5, 3, 30);
        Steps.commit(x, 1, 7, 7, 9, 90);
        Check.due(true, "7: take", () -> x.take(0, 1));
        int[] looks = {4, 4, 2, 1, 1, 50};
        for (int which = 0; which < looks.length; which++) {
            int w = which;
            Check.due(looks[w], "7: look " + w, () -> x.look(1, w));
        }
        Check.due(20, "7: VALUE", () -> x.value(1, 2, 4));
        Check.due(30, "7: VALUE", () -> x.value(1, 3, 4));
        Check.due(0, "7: what b had is gone", () -> x.value(1, 9, 4));
        Check.due(0, "7: what b had is gone", () -> x.seq(1, 7));
        Check.due(0, "7: what b had is gone", () -> x.verdict(1, 7));
        Check.due(Check.BAD_ARGUMENT, "7: below HORIZON", () -> x.value(1, 3, 3));
        Check.due(5, "7: SEQ", () -> x.seq(1, 1));
        Check.due(6, "7: SEQ of the aborted", () -> x.seq(1, 2));
        Check.due(2, "7: VERDICT of the aborted", () -> x.verdict(1, 2));
        Check.due(true, "7: alike", () -> x.same(0, 1));
        Check.due(1, "7: HORIZON of a stays", () -> x.look(0, 1));
        Check.due(20, "7: a stays", () -> x.value(0, 2, 1));
    }

    private static void promise7TakeRefused() {
        VersionFold x = new VersionFold(3);
        Steps.commit(x, 0, 0, 1, 0, 1);
        Steps.commit(x, 1, 0, 1, 0, 2);
        Check.due(false, "7: INDEX is the same", () -> x.take(0, 1));
        Check.due(false, "7: INDEX is below", () -> x.take(2, 1));
        Check.due(false, "7: itself", () -> x.take(1, 1));
        Check.due(2, "7: b stays", () -> x.value(1, 0, 1));
        Check.due(0, "7: HORIZON stays", () -> x.look(1, 1));
        Check.due(true, "7: INDEX is one above", () -> x.take(1, 2));
        Check.due(2, "7: taken", () -> x.value(2, 0, 1));
    }

    private static void promise7TakenFoldGoesOn() {
        VersionFold x = new VersionFold(3);
        for (int i = 1; i <= 5; i++) {
            Steps.commit(x, 0, 0, i, i, i * 10);
        }
        x.take(0, 3);
        Check.due(0x38, "7: WRITE SETS are taken over", () -> x.since(3, 2));
        Check.due(5, "7: written at HORIZON", () -> x.written(3, 5));
        Check.due(-1, "7: written below HORIZON", () -> x.written(3, 4));
        x.draft(1, 1, 2);
        x.reads(3);
        Check.due(2, "7: conflict below HORIZON", () -> x.test(3));
        x.draft(1, 1, 2);
        x.reads(2);
        x.writes(1, 77);
        Check.due(1, "7: SNAPSHOT below HORIZON", () -> x.apply(3));
        for (int index = 6; index <= 10; index++) {
            int horizon = Math.max(5, index - 3);
            int now = index;
            Check.due(horizon, "7: HORIZON at " + index, () -> x.look(3, 1));
            Check.due(50, "7: VALUE at HORIZON", () -> x.value(3, 5, horizon));
            Check.due(horizon == 5 ? 10 : 77, "7: VALUE at HORIZON", () -> x.value(3, 1, horizon));
            Check.due(77, "7: VALUE", () -> x.value(3, 1, now));
            Check.due(Check.BAD_ARGUMENT, "7: VALUE", () -> x.value(3, 5, horizon - 1));
            Steps.applyEmpty(x, 3, 1);
        }
        Check.due(5, "7: a stays", () -> x.look(0, 0));
        Check.due(10, "7: a stays", () -> x.value(0, 1, 5));
    }

    private static void promise8Clear() {
        VersionFold x = new VersionFold(2);
        for (int fold = 0; fold < 2; fold++) {
            Steps.commit(x, fold, 3, 1, 0, 5);
            x.apply(fold);
            x.draft(4, 1, 0);
            x.reads(0);
            x.apply(fold);
            Steps.commit(x, fold, 3, 2, 15, 8);
        }
        x.draft(3, 1, 0);
        x.reads(2);
        x.writes(2, 2);
        x.clear(0);
        dueFresh("8: clear", x, 0);
        Check.due(true, "8: as a new one", () -> x.same(0, 2));
        Check.due(4, "8: others stay", () -> x.look(1, 0));
        Check.due(8, "8: others stay", () -> x.value(1, 15, 4));
        Check.due(4, "8: the DRAFT stays", () -> x.look(0, 6));
        Check.due(4, "8: the DRAFT stays", () -> x.look(0, 7));
        Check.due(0, "8: since as far back as at first", () -> x.since(0, -2));
        Check.due(1, "8: the SEQ is free again", () -> x.apply(0));
        Check.due(0, "8: VALUE before", () -> x.value(0, 0, 1));
        Check.due(true, "8: it can take", () -> x.take(1, 0));
        for (int seq = 3; seq <= 40; seq++) {
            Steps.commit(x, 1, 3, seq, seq % 16, seq);
        }
        x.clear(1);
        dueFresh("8: clear of a long run", x, 1);
    }

    private static void promise9Value() {
        VersionFold x = new VersionFold(2);
        Steps.commit(x, 0, 0, 1, 7, 70);
        Check.due(0, "9: before", () -> x.value(0, 7, 0));
        Check.due(70, "9: at it", () -> x.value(0, 7, 1));
        for (int none : Steps.NOT_0_TO_15) {
            Check.due(Check.BAD_ARGUMENT, "9: key " + none, () -> x.value(0, none, 1));
        }
        for (int none : new int[] {-1, 2, 17, 18, Steps.MIN, Steps.MAX}) {
            Check.due(Check.BAD_ARGUMENT, "9: index " + none, () -> x.value(0, 7, none));
        }
        Steps.applyEmpty(x, 0, 1);
        Check.due(0, "9: INDEX - V is 0", () -> x.value(0, 7, 0));
        Steps.applyEmpty(x, 0, 1);
        Check.due(Check.BAD_ARGUMENT, "9: INDEX - V is 1", () -> x.value(0, 7, 0));
        Check.due(70, "9: at HORIZON", () -> x.value(0, 7, 1));
    }

    private static void promises10And11SeqAndVerdict() {
        VersionFold x = new VersionFold(2);
        Steps.commit(x, 2, 0, 3, 0, 1);
        Steps.commit(x, 2, 15, Steps.MAX, 1, 1);
        x.draft(0, 4, 0);
        x.reads(0);
        x.apply(2);
        Check.due(4, "10: SEQ", () -> x.seq(2, 0));
        Check.due(2, "11: VERDICT", () -> x.verdict(2, 0));
        Check.due(Steps.MAX, "10: SEQ", () -> x.seq(2, 15));
        Check.due(1, "11: VERDICT", () -> x.verdict(2, 15));
        Check.due(0, "10: no SEQ", () -> x.seq(2, 7));
        Check.due(0, "11: no VERDICT", () -> x.verdict(2, 7));
        Check.due(0, "10: another fold", () -> x.seq(1, 0));
        Check.due(0, "11: another fold", () -> x.verdict(1, 0));
        for (int none : Steps.NOT_0_TO_15) {
            Check.due(Check.BAD_ARGUMENT, "10: seq of " + none, () -> x.seq(2, none));
            Check.due(Check.BAD_ARGUMENT, "11: verdict of " + none, () -> x.verdict(2, none));
        }
        Steps.commit(x, 2, 0, 5, 0, 1);
        Check.due(5, "10: the next SEQ", () -> x.seq(2, 0));
        Check.due(1, "11: the next VERDICT", () -> x.verdict(2, 0));
    }

    private static void promise12Written() {
        VersionFold x = new VersionFold(3);
        Steps.commit(x, 0, 0, 1, 6, 5);
        Check.due(1, "12: written", () -> x.written(0, 6));
        Check.due(-1, "12: another key", () -> x.written(0, 7));
        Steps.commit(x, 0, 0, 2, 6, 5);
        Check.due(2, "12: the same VALUE again", () -> x.written(0, 6));
        Steps.applyEmpty(x, 0, 3);
        Check.due(2, "12: at HORIZON", () -> x.written(0, 6));
        Steps.applyEmpty(x, 0, 1);
        Check.due(-1, "12: below HORIZON", () -> x.written(0, 6));
        Check.due(5, "12: its VALUE stays", () -> x.value(0, 6, 6));
        for (int none : Steps.NOT_0_TO_15) {
            Check.due(Check.BAD_ARGUMENT, "12: key " + none, () -> x.written(0, none));
        }
    }

    private static void promise13Since() {
        VersionFold x = new VersionFold(3);
        Steps.commit(x, 0, 0, 1, 0, 5);
        Steps.commit(x, 0, 0, 2, 15, 5);
        Steps.commit(x, 0, 0, 3, 0, 6);
        Check.due(0x8001, "13: since the first", () -> x.since(0, 0));
        Check.due(0x8001, "13: since 1", () -> x.since(0, 1));
        Check.due(1, "13: since 2", () -> x.since(0, 2));
        Check.due(0, "13: since INDEX", () -> x.since(0, 3));
        for (int none : new int[] {-1, 4, Steps.MIN, Steps.MAX}) {
            Check.due(Check.BAD_ARGUMENT, "13: since " + none, () -> x.since(0, none));
        }
        VersionFold y = new VersionFold(3);
        Steps.commit(y, 0, 0, 1, 4, 5);
        Check.due(0x10, "13: since below 0", () -> y.since(0, -2));
        Check.due(Check.BAD_ARGUMENT, "13: since below INDEX - V", () -> y.since(0, -3));
    }

    private static void promise14Same() {
        VersionFold x = new VersionFold(3);
        Steps.commit(x, 0, 0, 1, 0, 0);
        Steps.applyEmpty(x, 1, 1);
        Steps.applyEmpty(x, 2, 2);
        Check.due(false, "14: INDEX alone differs", () -> x.same(1, 2));
        Check.due(false, "14: the other way round", () -> x.same(2, 1));
        Steps.commit(x, 1, 0, 1, 0, 0);
        Steps.applyEmpty(x, 0, 1);
        Check.due(false, "14: since differs", () -> x.same(0, 1));
        Check.due(false, "14: the other way round", () -> x.same(1, 0));
        Check.due(true, "14: itself", () -> x.same(0, 0));

        VersionFold y = new VersionFold(3);
        Steps.commit(y, 0, 0, 1, 0, 5);
        Steps.commit(y, 1, 0, 1, 0, 6);
        Check.due(false, "14: VALUES differ", () -> y.same(0, 1));
        Steps.commit(y, 2, 0, 2, 0, 5);
        Check.due(false, "14: SEQ differs", () -> y.same(0, 2));
        Steps.commit(y, 3, 1, 1, 0, 5);
        Check.due(false, "14: SESSIONS differ", () -> y.same(0, 3));
        promise14VerdictsAlone();
    }

    private static void promise14VerdictsAlone() {
        VersionFold x = new VersionFold(3);
        Steps.commit(x, 0, 0, 1, 0, 5);
        Steps.commit(x, 1, 0, 1, 0, 5);
        x.draft(1, 1, 0);
        x.reads(0);
        Check.due(2, "14: aborted", () -> x.apply(0));
        x.draft(1, 1, 1);
        x.reads(0);
        Check.due(1, "14: committed", () -> x.apply(1));
        Check.due(false, "14: VERDICT differs", () -> x.same(0, 1));
    }

    private static void promise14SameForgetsOldWrites() {
        VersionFold x = new VersionFold(2);
        Steps.commit(x, 0, 0, 1, 0, 0);
        x.draft(0, 1, 0);
        x.apply(1);
        Check.due(false, "14: a write alone", () -> x.same(0, 1));
        Steps.applyEmpty(x, 0, 1);
        Steps.applyEmpty(x, 1, 1);
        Check.due(false, "14: it can still be asked for", () -> x.same(0, 1));
        Steps.applyEmpty(x, 0, 1);
        Steps.applyEmpty(x, 1, 1);
        Check.due(1, "14: it is written still", () -> x.written(0, 0));
        Check.due(true, "14: it can't be asked for by since", () -> x.same(0, 1));
        Check.due(true, "14: the other way round", () -> x.same(1, 0));
        x.take(0, 2);
        Check.due(true, "14: HORIZON makes no difference", () -> x.same(2, 0));
    }

    private static void promise15Look() {
        VersionFold x = new VersionFold(1);
        x.draft(0, 1, 0);
        x.writes(0, Steps.MAX);
        x.writes(1, Steps.MAX);
        x.writes(2, 3);
        x.apply(0);
        Check.due(1, "15: the sum wraps", () -> x.look(0, 5));
        x.apply(0);
        x.apply(0);
        x.draft(1, 1, 0);
        x.apply(0);
        x.draft(1, 2, 4);
        x.reads(5);
        x.writes(0, -5);
        x.writes(6, 1);
        x.apply(0);
        int[] looks = {5, 4, 2, 1, 2, Steps.MIN - 2, 0x20, 0x41};
        for (int which = 0; which < looks.length; which++) {
            int w = which;
            Check.due(looks[w], "15: look " + w, () -> x.look(0, w));
        }
        for (int none : new int[] {-1, 8, 9, Steps.MIN, Steps.MAX}) {
            Check.due(-1, "15: look " + none, () -> x.look(0, none));
        }
        Check.due(0, "15: another fold", () -> x.look(1, 0));
        Check.due(0x20, "15: the DRAFT by any fold", () -> x.look(1, 6));
        Check.due(0x41, "15: the DRAFT by any fold", () -> x.look(3, 7));
    }

    private static void theExampleInTheReadme() {
        VersionFold x = new VersionFold(4);
        Check.due(true, "README: draft", () -> x.draft(0, 1, 0));
        Check.due(true, "README: reads", () -> x.reads(1));
        Check.due(true, "README: writes", () -> x.writes(0, 5));
        Check.due(1, "README: test", () -> x.test(0));
        Check.due(1, "README: apply", () -> x.apply(0));
        Check.due(0, "README: apply again", () -> x.apply(0));
        Check.due(0, "README: value as it was", () -> x.value(0, 0, 0));
        Check.due(5, "README: value as it is", () -> x.value(0, 0, 2));
        Check.due(1, "README: since", () -> x.since(0, 0));
        x.draft(1, 1, 0);
        x.reads(0);
        Check.due(2, "README: a stale read", () -> x.apply(0));
        Check.due(true, "README: take", () -> x.take(0, 1));
        Check.due(true, "README: same", () -> x.same(0, 1));
        Check.due(Check.BAD_ARGUMENT, "README: value below HORIZON", () -> x.value(1, 0, 2));
    }
}
