import java.util.Arrays;

/**
 * What the requests in an order make of keys and sessions, one by one: each is committed or
 * aborted by what was written since its snapshot. The promises are those of DOC.md.
 */
public final class VersionFold {
    public static final int NONE = -1;

    private static final int FOLDS = 4;
    private static final int KEYS = 16;
    private static final int SESSIONS = 16;
    private static final int LEAST_VERSIONS = 1;
    private static final int MOST_VERSIONS = 16;
    private static final int LAST_INDEX = 1000000;

    private static final int NEITHER = 0;
    private static final int COMMITTED = 1;
    private static final int ABORTED = 2;

    private final Fold[] folds;
    private final Request request;

    public VersionFold(int versions) {
        int kept = Math.max(LEAST_VERSIONS, Math.min(MOST_VERSIONS, versions));
        folds = new Fold[FOLDS];
        for (int i = 0; i < FOLDS; i++) {
            folds[i] = new Fold(kept);
        }
        request = new Request();
    }

    public boolean draft(int session, int seq, int snapshot) {
        if (!isSession(session) || seq < 1 || snapshot < 0) {
            return false;
        }
        request.begin(session, seq, snapshot);
        return true;
    }

    public boolean reads(int key) {
        if (!isKey(key)) {
            return false;
        }
        request.addRead(key);
        return true;
    }

    public boolean writes(int key, int value) {
        if (!isKey(key)) {
            return false;
        }
        request.addWrite(key, value);
        return true;
    }

    public int apply(int fold) throws IndexOutOfBoundsException {
        return foldAt(fold).admit(request);
    }

    public int test(int fold) throws IndexOutOfBoundsException {
        return foldAt(fold).decide(request);
    }

    public boolean take(int a, int b) throws IndexOutOfBoundsException {
        Fold from = foldAt(a);
        Fold to = foldAt(b);
        if (from.index <= to.index) {
            return false;
        }
        to.become(from);
        return true;
    }

    public void clear(int fold) throws IndexOutOfBoundsException {
        foldAt(fold).reset();
    }

    public int value(int fold, int key, int index)
            throws IndexOutOfBoundsException, IllegalArgumentException {
        Fold asked = foldAt(fold);
        requireKey(key);
        if (index < asked.horizon || index > asked.index) {
            throw new IllegalArgumentException("no VALUES are kept for this INDEX");
        }
        return asked.valueAt(key, index);
    }

    public int seq(int fold, int session)
            throws IndexOutOfBoundsException, IllegalArgumentException {
        Fold asked = foldAt(fold);
        requireSession(session);
        return asked.seqs[session];
    }

    public int verdict(int fold, int session)
            throws IndexOutOfBoundsException, IllegalArgumentException {
        Fold asked = foldAt(fold);
        requireSession(session);
        return asked.verdicts[session];
    }

    public int written(int fold, int key)
            throws IndexOutOfBoundsException, IllegalArgumentException {
        Fold asked = foldAt(fold);
        requireKey(key);
        return asked.keptWrite(key);
    }

    public int since(int fold, int index)
            throws IndexOutOfBoundsException, IllegalArgumentException {
        Fold asked = foldAt(fold);
        if (index < asked.oldestSnapshot() || index > asked.index) {
            throw new IllegalArgumentException("no WRITE SETS are kept for this INDEX");
        }
        return asked.keysAfter(index);
    }

    public boolean same(int a, int b) throws IndexOutOfBoundsException {
        Fold one = foldAt(a);
        Fold other = foldAt(b);
        return one.isLike(other);
    }

    public int look(int fold, int which) throws IndexOutOfBoundsException {
        Fold asked = foldAt(fold);
        switch (which) {
            case 0: return asked.index;
            case 1: return asked.horizon;
            case 2: return asked.committed;
            case 3: return asked.aborted;
            case 4: return asked.neither;
            case 5: return asked.sumOfValues();
            case 6: return request.readSet;
            case 7: return request.writeSet;
            default: return NONE;
        }
    }

    private Fold foldAt(int fold) {
        if (fold < 0 || fold >= FOLDS) {
            throw new IndexOutOfBoundsException("no such FOLD");
        }
        return folds[fold];
    }

    private static boolean isKey(int key) {
        return key >= 0 && key < KEYS;
    }

    private static boolean isSession(int session) {
        return session >= 0 && session < SESSIONS;
    }

    private static void requireKey(int key) {
        if (!isKey(key)) {
            throw new IllegalArgumentException("no such KEY");
        }
    }

    private static void requireSession(int session) {
        if (!isSession(session)) {
            throw new IllegalArgumentException("no such SESSION");
        }
    }

    /** Its session and its keys are in range always: the face refuses others before they get here. */
    private static final class Request {
        int session = 0;
        int seq = 1;
        int snapshot = 0;
        int readSet = 0;
        int writeSet = 0;
        // What stands here for a key outside the write set is left over and never used.
        final int[] values = new int[KEYS];

        void begin(int newSession, int newSeq, int newSnapshot) {
            session = newSession;
            seq = newSeq;
            snapshot = newSnapshot;
            readSet = 0;
            writeSet = 0;
        }

        void addRead(int key) {
            readSet |= 1 << key;
        }

        void addWrite(int key, int value) {
            writeSet |= 1 << key;
            values[key] = value;
        }

        boolean hasWrite(int key) {
            return (writeSet & (1 << key)) != 0;
        }
    }

    private static final class Fold {
        // One row for each INDEX from INDEX - V to INDEX. There are rows for the greatest V
        // whatever V is, so that the divisor that finds a row is a constant.
        private static final int ROWS = MOST_VERSIONS + 1;

        final int versions;
        int index = 0;
        int horizon = 0;
        int committed = 0;
        int aborted = 0;
        int neither = 0;
        final int[] rows = new int[ROWS * KEYS];
        // The INDEX of the last committed write of each KEY, 0 if there was none. No earlier one
        // is needed: a KEY was written above some INDEX just if its last write was above it.
        final int[] lastWrites = new int[KEYS];
        final int[] seqs = new int[SESSIONS];
        final int[] verdicts = new int[SESSIONS];

        Fold(int versions) {
            this.versions = versions;
        }

        int decide(Request request) {
            if (index >= LAST_INDEX || request.snapshot > index) {
                return NONE;
            }
            if (request.seq <= seqs[request.session]) {
                return NEITHER;
            }
            if (request.snapshot < oldestSnapshot()) {
                return ABORTED;
            }
            boolean readIsStale = (request.readSet & keysAfter(request.snapshot)) != 0;
            return readIsStale ? ABORTED : COMMITTED;
        }

        int admit(Request request) {
            int decision = decide(request);
            if (decision == NONE) {
                return NONE;
            }
            openNextRow();
            if (decision == NEITHER) {
                neither++;
                return NEITHER;
            }
            if (decision == COMMITTED) {
                committed++;
                store(request);
            } else {
                aborted++;
            }
            seqs[request.session] = request.seq;
            verdicts[request.session] = decision;
            return decision;
        }

        private void openNextRow() {
            int from = rowStart(index);
            index++;
            System.arraycopy(rows, from, rows, rowStart(index), KEYS);
            horizon = Math.max(horizon, index - versions);
        }

        private void store(Request request) {
            int start = rowStart(index);
            for (int key = 0; key < KEYS; key++) {
                if (request.hasWrite(key)) {
                    rows[start + key] = request.values[key];
                    lastWrites[key] = index;
                }
            }
        }

        private static int rowStart(int index) {
            return index % ROWS * KEYS;
        }

        /** The least SNAPSHOT that is not too old; below 0 while the INDEX is below V. */
        int oldestSnapshot() {
            return index - versions;
        }

        int keysAfter(int snapshot) {
            // A KEY that was never written has the last write 0, which is above a negative INDEX.
            int bound = Math.max(snapshot, 0);
            int keys = 0;
            for (int key = 0; key < KEYS; key++) {
                if (lastWrites[key] > bound) {
                    keys |= 1 << key;
                }
            }
            return keys;
        }

        int keptWrite(int key) {
            int last = lastWrites[key];
            return last > 0 && last >= horizon ? last : NONE;
        }

        int valueAt(int key, int atIndex) {
            return rows[rowStart(atIndex) + key];
        }

        int sumOfValues() {
            int sum = 0;
            for (int key = 0; key < KEYS; key++) {
                sum += valueAt(key, index);
            }
            return sum;
        }

        boolean isLike(Fold other) {
            return index == other.index && hasKeysOf(other) && hasSessionsOf(other);
        }

        private boolean hasKeysOf(Fold other) {
            // Writes that since() can no longer be asked about make no difference.
            int oldest = oldestSnapshot();
            for (int key = 0; key < KEYS; key++) {
                int mine = Math.max(lastWrites[key], oldest);
                int theirs = Math.max(other.lastWrites[key], oldest);
                if (mine != theirs || valueAt(key, index) != other.valueAt(key, index)) {
                    return false;
                }
            }
            return true;
        }

        private boolean hasSessionsOf(Fold other) {
            for (int session = 0; session < SESSIONS; session++) {
                if (seqs[session] != other.seqs[session]
                        || verdicts[session] != other.verdicts[session]) {
                    return false;
                }
            }
            return true;
        }

        void become(Fold other) {
            index = other.index;
            horizon = other.index;
            committed = other.committed;
            aborted = other.aborted;
            neither = other.neither;
            System.arraycopy(other.rows, 0, rows, 0, ROWS * KEYS);
            System.arraycopy(other.lastWrites, 0, lastWrites, 0, KEYS);
            System.arraycopy(other.seqs, 0, seqs, 0, SESSIONS);
            System.arraycopy(other.verdicts, 0, verdicts, 0, SESSIONS);
        }

        void reset() {
            index = 0;
            horizon = 0;
            committed = 0;
            aborted = 0;
            neither = 0;
            Arrays.fill(rows, 0);
            Arrays.fill(lastWrites, 0);
            Arrays.fill(seqs, 0);
            Arrays.fill(verdicts, 0);
        }
    }
}
