import java.util.ArrayList;
import java.util.Arrays;
import java.util.List;
import java.util.Random;

/**
 * Runs of calls, the same ones each time, on the program and on a model that says the document's
 * terms word by word: it keeps every REQUEST and all VALUES at every INDEX, and forgets nothing.
 */
public final class ModelTest {
    private static final int RUNS = 3000;
    private static final int CALLS = 512;

    private ModelTest() {
    }

    public static void main(String[] args) {
        for (int run = 0; run < RUNS && !Check.anyWrong(); run++) {
            new Run(run).go();
        }
        Check.end();
    }

    private static final class Applied {
        final int writeSet;
        final int verdict;

        Applied(int writeSet, int verdict) {
            this.writeSet = writeSet;
            this.verdict = verdict;
        }
    }

    private static final class ModelFold {
        int horizon = 0;
        // The REQUEST applied with INDEX i is at i - 1; the VALUES at INDEX i are at i.
        List<Applied> order = new ArrayList<>();
        List<int[]> values = new ArrayList<>(List.of(new int[16]));
        int[] seqs = new int[16];
        int[] verdicts = new int[16];

        int index() {
            return order.size();
        }

        ModelFold copy() {
            ModelFold copy = new ModelFold();
            copy.horizon = index();
            copy.order = new ArrayList<>(order);
            copy.values = new ArrayList<>(values);
            copy.seqs = seqs.clone();
            copy.verdicts = verdicts.clone();
            return copy;
        }
    }

    private static final class Model {
        final int v;
        final ModelFold[] folds = {
            new ModelFold(), new ModelFold(), new ModelFold(), new ModelFold()
        };
        int session = 0;
        int seq = 1;
        int snapshot = 0;
        int readSet = 0;
        Integer[] writes = new Integer[16];

        Model(int versions) {
            v = versions < 1 ? 1 : versions > 16 ? 16 : versions;
        }

        ModelFold at(int fold) {
            if (fold < 0 || fold > 3) {
                throw new IndexOutOfBoundsException();
            }
            return folds[fold];
        }

        static void require(boolean holds) {
            if (!holds) {
                throw new IllegalArgumentException();
            }
        }

        static boolean in0To15(int n) {
            return n >= 0 && n <= 15;
        }

        boolean draft(int newSession, int newSeq, int newSnapshot) {
            if (!in0To15(newSession) || newSeq < 1 || newSnapshot < 0) {
                return false;
            }
            session = newSession;
            seq = newSeq;
            snapshot = newSnapshot;
            readSet = 0;
            writes = new Integer[16];
            return true;
        }

        boolean reads(int key) {
            if (in0To15(key)) {
                readSet |= 1 << key;
            }
            return in0To15(key);
        }

        boolean writes(int key, int value) {
            if (in0To15(key)) {
                writes[key] = value;
            }
            return in0To15(key);
        }

        int writeSet() {
            int set = 0;
            for (int key = 0; key < 16; key++) {
                set |= writes[key] == null ? 0 : 1 << key;
            }
            return set;
        }

        int test(int fold) {
            ModelFold f = at(fold);
            if (f.index() >= 1000000 || snapshot > f.index()) {
                return -1;
            }
            if (seq <= f.seqs[session]) {
                return 0;
            }
            int i = f.index() + 1;
            if (snapshot < i - 1 - v) {
                return 2;
            }
            for (int earlier = snapshot + 1; earlier < i; earlier++) {
                Applied request = f.order.get(earlier - 1);
                if (request.verdict == 1 && (request.writeSet & readSet) != 0) {
                    return 2;
                }
            }
            return 1;
        }

        int apply(int fold) {
            ModelFold f = at(fold);
            int verdict = test(fold);
            if (verdict == -1) {
                return -1;
            }
            int[] next = f.values.get(f.index()).clone();
            for (int key = 0; key < 16; key++) {
                if (verdict == 1 && writes[key] != null) {
                    next[key] = writes[key];
                }
            }
            f.order.add(new Applied(writeSet(), verdict));
            f.values.add(next);
            if (verdict != 0) {
                f.seqs[session] = seq;
                f.verdicts[session] = verdict;
            }
            if (f.horizon < f.index() - v) {
                f.horizon = f.index() - v;
            }
            return verdict;
        }

        boolean take(int a, int b) {
            ModelFold from = at(a);
            ModelFold to = at(b);
            if (from.index() <= to.index()) {
                return false;
            }
            folds[b] = from.copy();
            return true;
        }

        String clear(int fold) {
            at(fold);
            folds[fold] = new ModelFold();
            return "";
        }

        int value(int fold, int key, int index) {
            ModelFold f = at(fold);
            require(in0To15(key) && index >= f.horizon && index <= f.index());
            return f.values.get(index)[key];
        }

        int seq(int fold, int ofSession) {
            ModelFold f = at(fold);
            require(in0To15(ofSession));
            return f.seqs[ofSession];
        }

        int verdict(int fold, int ofSession) {
            ModelFold f = at(fold);
            require(in0To15(ofSession));
            return f.verdicts[ofSession];
        }

        int written(int fold, int key) {
            ModelFold f = at(fold);
            require(in0To15(key));
            for (int i = f.index(); i >= Math.max(1, f.horizon); i--) {
                Applied request = f.order.get(i - 1);
                if (request.verdict == 1 && (request.writeSet & 1 << key) != 0) {
                    return i;
                }
            }
            return -1;
        }

        int since(int fold, int index) {
            ModelFold f = at(fold);
            require(index >= f.index() - v && index <= f.index());
            int keys = 0;
            for (int i = 1; i <= f.index(); i++) {
                Applied request = f.order.get(i - 1);
                keys |= i > index && request.verdict == 1 ? request.writeSet : 0;
            }
            return keys;
        }

        boolean same(int a, int b) {
            ModelFold one = at(a);
            ModelFold other = at(b);
            boolean alike = one.index() == other.index()
                    && Arrays.equals(one.values.get(one.index()), other.values.get(one.index()))
                    && Arrays.equals(one.seqs, other.seqs)
                    && Arrays.equals(one.verdicts, other.verdicts);
            for (int i = one.index() - v; alike && i <= one.index(); i++) {
                alike = since(a, i) == since(b, i);
            }
            return alike;
        }

        int counted(ModelFold f, int verdict) {
            int count = 0;
            for (Applied request : f.order) {
                count += request.verdict == verdict ? 1 : 0;
            }
            return count;
        }

        int look(int fold, int which) {
            ModelFold f = at(fold);
            switch (which) {
                case 0: return f.index();
                case 1: return f.horizon;
                case 2: return counted(f, 1);
                case 3: return counted(f, 2);
                case 4: return counted(f, 0);
                case 5: return Arrays.stream(f.values.get(f.index())).sum();
                case 6: return readSet;
                case 7: return writeSet();
                default: return -1;
            }
        }
    }

    private static final class Run {
        final int number;
        final Random random;
        final VersionFold x;
        final Model model;
        // Few KEYS, SESSIONS and FOLDS in some runs make conflicts and alike FOLDS likely.
        final int span;
        final int foldSpan;

        Run(int number) {
            this.number = number;
            random = new Random(number);
            int versions = random.nextInt(22) - 2;
            x = new VersionFold(versions);
            model = new Model(versions);
            span = 1 + random.nextInt(16);
            foldSpan = 1 + random.nextInt(4);
        }

        void go() {
            for (int call = 0; call < CALLS; call++) {
                if (random.nextInt(3) != 0) {
                    change();
                } else {
                    ask();
                }
            }
        }

        int fold() {
            return random.nextInt(60) == 0 ? random.nextInt(8) - 2 : random.nextInt(foldSpan);
        }

        int number() {
            return random.nextInt(60) == 0 ? random.nextInt(40) - 12 : random.nextInt(span);
        }

        int value() {
            return random.nextInt(3) == 0 ? random.nextInt() : random.nextInt(3);
        }

        int nearIndex() {
            int index = model.folds[random.nextInt(foldSpan)].index();
            return index + 2 - random.nextInt(model.v + 5);
        }

        int nextSeq() {
            int last = model.folds[random.nextInt(foldSpan)].seqs[random.nextInt(span)];
            return last + random.nextInt(5) - 1;
        }

        void due(Object want, String what, java.util.function.Supplier<Object> call) {
            Check.due(want, "run " + number + ", V " + model.v + ": " + what, call);
        }

        void change() {
            int a = fold();
            int b = fold();
            int n = number();
            int value = value();
            int choice = random.nextInt(100);
            if (choice < 25) {
                int seq = nextSeq();
                int snapshot = nearIndex();
                due(model.draft(n, seq, snapshot), "draft(" + n + ", " + seq + ", " + snapshot + ")",
                        () -> x.draft(n, seq, snapshot));
            } else if (choice < 37) {
                due(model.reads(n), "reads(" + n + ")", () -> x.reads(n));
            } else if (choice < 60) {
                due(model.writes(n, value), "writes(" + n + ", " + value + ")",
                        () -> x.writes(n, value));
            } else if (choice < 94) {
                due(Check.answer(() -> model.apply(a)), "apply(" + a + ")", () -> x.apply(a));
            } else if (choice < 98) {
                due(Check.answer(() -> model.take(a, b)), "take(" + a + ", " + b + ")",
                        () -> x.take(a, b));
            } else {
                due(Check.answer(() -> model.clear(a)), "clear(" + a + ")",
                        () -> { x.clear(a); return ""; });
            }
        }

        void ask() {
            int a = fold();
            int b = fold();
            int n = number();
            int index = nearIndex();
            switch (random.nextInt(8)) {
                case 0:
                    due(Check.answer(() -> model.test(a)), "test(" + a + ")", () -> x.test(a));
                    break;
                case 1:
                    due(Check.answer(() -> model.value(a, n, index)),
                            "value(" + a + ", " + n + ", " + index + ")", () -> x.value(a, n, index));
                    break;
                case 2:
                    due(Check.answer(() -> model.seq(a, n)), "seq(" + a + ", " + n + ")",
                            () -> x.seq(a, n));
                    break;
                case 3:
                    due(Check.answer(() -> model.verdict(a, n)), "verdict(" + a + ", " + n + ")",
                            () -> x.verdict(a, n));
                    break;
                case 4:
                    due(Check.answer(() -> model.written(a, n)), "written(" + a + ", " + n + ")",
                            () -> x.written(a, n));
                    break;
                case 5:
                    due(Check.answer(() -> model.since(a, index)), "since(" + a + ", " + index + ")",
                            () -> x.since(a, index));
                    break;
                case 6:
                    due(Check.answer(() -> model.same(a, b)), "same(" + a + ", " + b + ")",
                            () -> x.same(a, b));
                    break;
                default:
                    int which = random.nextInt(10) - 1;
                    due(Check.answer(() -> model.look(a, which)), "look(" + a + ", " + which + ")",
                            () -> x.look(a, which));
                    break;
            }
        }
    }
}
