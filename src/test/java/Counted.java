/** A SealedRecords whose calls are counted: nothing is promised beyond the 512th, so no test may go there. */
final class Counted {
    static final int MOST_CALLS = 512;
    private static int most = 0;

    private final SealedRecords x;
    private int calls = 0;

    Counted(int limit) {
        x = new SealedRecords(limit);
    }

    /** The most calls that any object of this test had. */
    static int most() {
        return most;
    }

    int calls() {
        return calls;
    }

    private SealedRecords next() {
        calls++;
        most = Math.max(most, calls);
        return x;
    }

    boolean secret(int end, long s) {
        return next().secret(end, s);
    }

    int key(int end, boolean sending) {
        return next().key(end, sending);
    }

    boolean advance(int end) {
        return next().advance(end);
    }

    boolean write(int end, int b) {
        return next().write(end, b);
    }

    int seal(int end, int type, int padding) {
        return next().seal(end, type, padding);
    }

    int deliver(int end) {
        return next().deliver(end);
    }

    boolean alter(int end, int k, int i, int v) {
        return next().alter(end, k, i, v);
    }

    boolean cut(int end, int k) {
        return next().cut(end, k);
    }

    boolean lose(int end, int k) {
        return next().lose(end, k);
    }

    boolean copy(int end, int k) {
        return next().copy(end, k);
    }

    boolean swap(int end, int k) {
        return next().swap(end, k);
    }

    boolean inject(int end, int type, int n, int b) {
        return next().inject(end, type, n, b);
    }

    int waiting(int end) {
        return next().waiting(end);
    }

    int wire(int end, int k, int i) {
        return next().wire(end, k, i);
    }

    int items(int end) {
        return next().items(end);
    }

    int item(int end, int i) {
        return next().item(end, i);
    }

    boolean take(int end) {
        return next().take(end);
    }

    int look(int end, int what) {
        return next().look(end, what);
    }
}
