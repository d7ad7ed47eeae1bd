/** What a test does to an object again and again. */
final class Hand {
    /** Arguments that name no end. */
    static final int[] NO_ENDS = {-1, 2, 3, Integer.MIN_VALUE, Integer.MAX_VALUE};

    private Hand() {
    }

    /** A new object both of whose ends took these secrets, in this order, and then keyed every side. */
    static SealedRecords keyed(int limit, long... secrets) {
        SealedRecords x = new SealedRecords(limit);
        for (int end = 0; end < 2; end++) {
            for (long s : secrets) {
                x.secret(end, s);
            }
            x.key(end, true);
            x.key(end, false);
        }
        return x;
    }

    static SealedRecords atStage(int stage) {
        if (stage == 0) {
            return new SealedRecords(100);
        }
        return stage == 1 ? keyed(100, 7) : keyed(100, 7, 8);
    }

    static int send(SealedRecords x, int end, int type, int padding, int... content) {
        for (int b : content) {
            x.write(end, b);
        }
        return x.seal(end, type, padding);
    }

    /** Sends from the end and answers what the other end's deliver says. */
    static int pass(SealedRecords x, int end, int type, int... content) {
        send(x, end, type, 0, content);
        return x.deliver(1 - end);
    }

    /** Puts a record of any type and payload on the wire to the end. */
    static void forge(SealedRecords x, int end, int type, int... payload) {
        x.inject(end, type, payload.length, 0);
        int k = x.waiting(end) - 1;
        for (int i = 0; i < payload.length; i++) {
            if (payload[i] != 0) {
                x.alter(end, k, i + 1, payload[i]);
            }
        }
    }

    /** Record k on the wire to the end: its type and payload. */
    static String record(SealedRecords x, int end, int k) {
        StringBuilder text = new StringBuilder("" + x.wire(end, k, 0) + ":");
        for (int i = 1; i <= x.wire(end, k, -1); i++) {
            text.append(' ').append(x.wire(end, k, i));
        }
        return text.toString();
    }

    static String record(int type, int... payload) {
        StringBuilder text = new StringBuilder("" + type + ":");
        for (int b : payload) {
            text.append(' ').append(b);
        }
        return text.toString();
    }

    static String wire(SealedRecords x, int end) {
        StringBuilder text = new StringBuilder();
        for (int k = 0; k < x.waiting(end); k++) {
            text.append('[').append(record(x, end, k)).append(']');
        }
        return text.toString();
    }

    static String oldestItem(SealedRecords x, int end) {
        StringBuilder text = new StringBuilder("" + x.item(end, -2) + ":");
        for (int i = 0; i < x.item(end, -1); i++) {
            text.append(' ').append(x.item(end, i));
        }
        return text.toString();
    }

    /** What look tells of the end, what 0 to 9. */
    static String looks(SealedRecords x, int end) {
        StringBuilder text = new StringBuilder();
        for (int what = 0; what < 10; what++) {
            text.append(what == 0 ? "" : " ").append(x.look(end, what));
        }
        return text.toString();
    }

    /** All that can be seen of the object, in few enough calls to stand before and after another one. */
    static String all(SealedRecords x) {
        StringBuilder text = new StringBuilder();
        for (int end = 0; end < 2; end++) {
            text.append(looks(x, end)).append(" / ").append(x.items(end)).append(" items, ");
            text.append(oldestItem(x, end)).append(" / ").append(wire(x, end)).append(" // ");
        }
        return text.toString();
    }
}
