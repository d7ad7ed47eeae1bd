/** What a test does to an object again and again. */
final class Hand {
    /** Arguments that name no end. */
    static final int[] NO_ENDS = {-1, 2, 3, Integer.MIN_VALUE, Integer.MAX_VALUE};
    /** Numbers that are no bytes. */
    static final int[] NO_BYTES = {-1, 256, 257, -256, Integer.MIN_VALUE, Integer.MAX_VALUE};

    private Hand() {
    }

    /** The secrets of which objects at this stage are made here. */
    static long[] secrets(int stage) {
        long[] all = {7, 8};
        return java.util.Arrays.copyOf(all, stage);
    }

    /** A new object both of whose ends took these secrets, in this order, and then keyed every side. */
    static Counted keyed(int limit, long... secrets) {
        Counted x = new Counted(limit);
        for (int end = 0; end < 2; end++) {
            for (long s : secrets) {
                x.secret(end, s);
            }
            if (secrets.length > 0) {
                x.key(end, true);
                x.key(end, false);
            }
        }
        return x;
    }

    static Counted atStage(int stage) {
        return keyed(100, secrets(stage));
    }

    static void write(Counted x, int end, int... content) {
        for (int b : content) {
            x.write(end, b);
        }
    }

    static int send(Counted x, int end, int type, int padding, int... content) {
        write(x, end, content);
        return x.seal(end, type, padding);
    }

    /** Sends from the end and answers what the other end's deliver says. */
    static int pass(Counted x, int end, int type, int... content) {
        send(x, end, type, 0, content);
        return x.deliver(1 - end);
    }

    /** The next record of the end is sealed with this secret, as the first one of it. */
    static void sealsWith(Check check, String what, Counted x, int end, long secret) {
        int k = x.waiting(1 - end);
        check.due(what, send(x, end, 23, 1, 65, 0), 12);
        check.due(what, record(x, 1 - end, k), record(23, Formulas.payload(secret, 0, 65, 0, 23, 0)));
    }

    /** Puts a record of any type and payload on the wire to the end. */
    static void forge(Counted x, int end, int type, int... payload) {
        x.inject(end, type, payload.length, 0);
        int k = x.waiting(end) - 1;
        for (int i = 0; i < payload.length; i++) {
            if (payload[i] != 0) {
                x.alter(end, k, i + 1, payload[i]);
            }
        }
    }

    /** Forges, to an end that is at this stage, a record with these inner bytes and the tag for the count n. */
    static void forgeSealed(Counted x, int end, int stage, int n, int... inner) {
        forge(x, end, 23, Formulas.payload(Formulas.receivingSecret(end, secrets(stage)), n, inner));
    }

    /** The end's next deliver gives the alert a, and all that an alert leaves is left. */
    static void alert(Check check, String what, Counted x, int end, int a) {
        int items = x.items(end);
        int waiting = x.waiting(end);
        int open = x.look(end, 7);
        int owes = x.look(end, 8);
        check.due(what, x.deliver(end), 256 + a);
        check.due(what + ": reason", x.look(end, 6), 256 + a);
        check.due(what + ": nothing is delivered", x.items(end), items);
        check.due(what + ": the record is off", x.waiting(end), waiting - 1);
        check.due(what + ": messages stay", x.look(end, 7), open);
        check.due(what + ": what is owed stays", x.look(end, 8), owes);
        check.due(what + ": the sending stays open", x.look(end, 3), 0);
    }

    /** Records that are ignored below stage 2: they show no more than that they are there. */
    static void inject(Counted x, int end, int times) {
        for (int i = 0; i < times; i++) {
            x.inject(end, 20, 1, 1);
        }
    }

    /** Record k on the wire to the end: its type and payload. */
    static String record(Counted x, int end, int k) {
        int size = x.wire(end, k, -1);
        StringBuilder text = new StringBuilder("" + x.wire(end, k, 0) + ":");
        for (int i = 1; i <= size; i++) {
            text.append(' ').append(x.wire(end, k, i));
        }
        return text.toString();
    }

    static String record(int type, int... payload) {
        StringBuilder text = new StringBuilder("" + type + ":");
        for (int b : payload) {
            text.append(' ').append(b);
        }
        return text.toString();
    }

    static String wire(Counted x, int end) {
        int waiting = x.waiting(end);
        StringBuilder text = new StringBuilder();
        for (int k = 0; k < waiting; k++) {
            text.append('[').append(record(x, end, k)).append(']');
        }
        return text.toString();
    }

    static String oldestItem(Counted x, int end) {
        int size = x.item(end, -1);
        StringBuilder text = new StringBuilder("" + x.item(end, -2) + ":");
        for (int i = 0; i < size; i++) {
            text.append(' ').append(x.item(end, i));
        }
        return text.toString();
    }

    /** What look tells of the end, what 0 to 9. */
    static String looks(Counted x, int end) {
        StringBuilder text = new StringBuilder();
        for (int what = 0; what < 10; what++) {
            text.append(what == 0 ? "" : " ").append(x.look(end, what));
        }
        return text.toString();
    }

    /** All that can be seen of the object, in few enough calls to stand before and after another one. */
    static String all(Counted x) {
        StringBuilder text = new StringBuilder();
        for (int end = 0; end < 2; end++) {
            text.append(looks(x, end)).append(" / ").append(x.items(end)).append(" items, ");
            text.append(oldestItem(x, end)).append(" / ").append(wire(x, end)).append(" // ");
        }
        return text.toString();
    }

    /**
     * All that can be seen, and then what the object does further on, which shows what cannot be seen: the items behind
     * the oldest, how far an open message has come, and, by the records that go out and come in, chain, secrets and
     * draft. Two objects that are in the same state answer the same text. The object is used up by it.
     */
    static String future(Counted x) {
        StringBuilder text = new StringBuilder();
        for (int end = 0; end < 2; end++) {
            text.append(looks(x, end)).append(" / ").append(wire(x, end)).append(" / ");
        }
        for (int end = 0; end < 2; end++) {
            text.append(drain(x, end));
            for (int n = x.waiting(end); n > 0; n--) {
                text.append(" deliver ").append(x.deliver(end)).append(drain(x, end));
            }
            text.append(" look ").append(x.look(end, 5)).append(' ').append(x.look(end, 6)).append(' ').append(x.look(end, 7));
        }
        for (int end = 0; end < 2; end++) {
            text.append(" seal ").append(x.seal(end, 22, 0)).append(wire(x, 1 - end));
            x.secret(end, 5);
            text.append(" key ").append(x.key(end, true)).append(" seal ").append(x.seal(end, 22, 0)).append(wire(x, 1 - end));
        }
        return text.toString();
    }

    private static String drain(Counted x, int end) {
        StringBuilder text = new StringBuilder(" items");
        for (int n = x.items(end); n > 0; n--) {
            text.append(" [").append(oldestItem(x, end)).append(']');
            x.take(end);
        }
        return text.toString();
    }
}
