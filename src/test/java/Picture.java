import java.util.ArrayList;
import java.util.List;
import java.util.function.Consumer;
import java.util.function.Function;
import java.util.function.Supplier;

/**
 * All that can be asked after some steps, so that two states can be told apart. Each FOLD is asked
 * on an object of its own: one object would need more than its 512 calls.
 */
final class Picture {
    private final List<String> lines = new ArrayList<>();

    private Picture() {
    }

    /** The call answers as due, and all can be asked after it that could be asked before it. */
    static void dueUnchanged(Object want, String what, Supplier<VersionFold> made,
            Function<VersionFold, Object> call) {
        Check.due(want, what, () -> call.apply(made.get()));
        List<String> before = after(made, x -> { });
        List<String> after = after(made, x -> Check.answer(() -> call.apply(x)));
        Check.due("no change", what, () -> firstChange(before, after));
    }

    private static String firstChange(List<String> before, List<String> after) {
        for (int i = 0; i < before.size() && i < after.size(); i++) {
            if (!before.get(i).equals(after.get(i))) {
                return before.get(i) + ", then " + after.get(i);
            }
        }
        return before.size() == after.size() ? "no change" : "another number of answers";
    }

    private static List<String> after(Supplier<VersionFold> made, Consumer<VersionFold> steps) {
        Picture picture = new Picture();
        for (int fold = 0; fold < 4; fold++) {
            VersionFold x = made.get();
            steps.accept(x);
            picture.addFold(x, fold);
            picture.addDraft(x, fold);
        }
        return picture.lines;
    }

    private void add(String what, Supplier<Object> call) {
        lines.add(what + " " + Check.answer(call));
    }

    private void addFold(VersionFold x, int fold) {
        String label = "fold " + fold + " ";
        for (int i = -1; i <= 8; i++) {
            int which = i;
            add(label + "look " + which, () -> x.look(fold, which));
        }
        addKeysAndSessions(x, fold);
        int index = x.look(fold, 0);
        for (int i = Math.max(x.look(fold, 1), index - 4); i <= index + 1; i++) {
            addIndex(x, fold, i);
        }
        for (int i = 0; i < 4; i++) {
            int other = i;
            add(label + "same as " + other, () -> x.same(fold, other));
        }
    }

    private void addKeysAndSessions(VersionFold x, int fold) {
        String label = "fold " + fold + " ";
        for (int i = 0; i < 16; i++) {
            int n = i;
            add(label + "seq of " + n, () -> x.seq(fold, n));
            add(label + "verdict of " + n, () -> x.verdict(fold, n));
            add(label + "written of " + n, () -> x.written(fold, n));
        }
    }

    private void addIndex(VersionFold x, int fold, int index) {
        String label = "fold " + fold + " at " + index + " ";
        add(label + "since", () -> x.since(fold, index));
        for (int i = 0; i < 16; i++) {
            int key = i;
            add(label + "value of " + key, () -> x.value(fold, key, index));
        }
    }

    /** SESSION, SEQ, SNAPSHOT and VALUES of the DRAFT can't be asked for: it is applied. */
    private void addDraft(VersionFold x, int fold) {
        String label = "the draft by fold " + fold + " ";
        for (int i = 0; i < 4; i++) {
            int other = i;
            add(label + "test " + other, () -> x.test(other));
        }
        add(label + "apply", () -> x.apply(fold));
        addKeysAndSessions(x, fold);
        addIndex(x, fold, x.look(fold, 0));
    }
}
