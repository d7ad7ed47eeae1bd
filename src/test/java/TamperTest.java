/** Promises 8 (alter), 9 (cut), 10 (lose), 11 (copy), 12 (swap) and 13 (inject). */
public final class TamperTest {
    private static final Check CHECK = new Check();
    private static final int[] FAR = {-1, 3, 12, Integer.MIN_VALUE, Integer.MAX_VALUE, Integer.MAX_VALUE - 1};

    public static void main(String[] args) {
        for (int end = 0; end < 2; end++) {
            alterChanges(end);
            alterRefuses(end);
            cuts(end);
            loses(end);
            copies(end);
            swaps(end);
            injects(end);
        }
        noSuchEnd();
        emptyWires();
        rowsAreNotShared();
        CHECK.finish();
    }

    /** An object with three records on the wire to the end, and one on the other wire. */
    private static SealedRecords three(int end) {
        SealedRecords x = new SealedRecords(100);
        Hand.send(x, 1 - end, 22, 0, 1, 2, 3);
        Hand.send(x, 1 - end, 23, 0);
        Hand.send(x, 1 - end, 255, 0, 0);
        Hand.send(x, end, 7, 0, 7, 7);
        return x;
    }

    private static void wires(String what, SealedRecords x, int end, String due) {
        CHECK.due(what, Hand.wire(x, end), due);
        CHECK.due(what + ": the other wire", Hand.wire(x, 1 - end), "[7: 7 7]");
    }

    private static void alterChanges(int end) {
        SealedRecords x = three(end);
        CHECK.yes("type", x.alter(end, 0, 0, 255));
        CHECK.yes("first byte", x.alter(end, 0, 1, 1));
        CHECK.yes("last byte", x.alter(end, 0, 3, 128));
        CHECK.yes("type of an empty record", x.alter(end, 1, 0, 3));
        CHECK.yes("last record", x.alter(end, 2, 1, 255));
        wires("altered", x, end, "[233: 0 2 131][20:][255: 255]");
        CHECK.yes("back", x.alter(end, 0, 3, 128));
        wires("altered back", x, end, "[233: 0 2 3][20:][255: 255]");
    }

    private static void alterRefuses(int end) {
        SealedRecords x = three(end);
        String before = Hand.all(x);
        for (int k : FAR) {
            CHECK.no("record " + k, x.alter(end, k, 0, 1));
        }
        for (int i : new int[] {-1, -2, 4, 40, 41, Integer.MIN_VALUE, Integer.MAX_VALUE}) {
            CHECK.no("byte " + i, x.alter(end, 0, i, 1));
        }
        CHECK.no("byte of an empty record", x.alter(end, 1, 1, 1));
        for (int v : new int[] {0, -1, 256, Integer.MIN_VALUE, Integer.MAX_VALUE}) {
            CHECK.no("x " + v, x.alter(end, 0, 0, v));
            CHECK.no("x " + v, x.alter(end, 0, 1, v));
        }
        CHECK.due("nothing changed", Hand.all(x), before);
        x.cut(end, 0);
        CHECK.no("a byte that was cut", x.alter(end, 0, 3, 1));
    }

    private static void cuts(int end) {
        SealedRecords x = three(end);
        CHECK.yes("cut", x.cut(end, 0));
        wires("cut", x, end, "[22: 1 2][23:][255: 0]");
        CHECK.yes("cut", x.cut(end, 0));
        CHECK.yes("cut", x.cut(end, 0));
        CHECK.no("cut what is empty", x.cut(end, 0));
        CHECK.no("cut what is empty", x.cut(end, 1));
        CHECK.yes("cut", x.cut(end, 2));
        for (int k : FAR) {
            CHECK.no("cut " + k, x.cut(end, k));
        }
        wires("cut", x, end, "[22:][23:][255:]");
        CHECK.due("no byte is there", x.wire(end, 0, 1), SealedRecords.NONE);
        CHECK.due("a record cut to nothing", Hand.pass(x, 1 - end, 22, 1), 266);
    }

    private static void loses(int end) {
        SealedRecords x = three(end);
        for (int k : FAR) {
            CHECK.no("lose " + k, x.lose(end, k));
        }
        CHECK.yes("lose", x.lose(end, 1));
        wires("lost", x, end, "[22: 1 2 3][255: 0]");
        CHECK.no("lose", x.lose(end, 2));
        CHECK.yes("lose", x.lose(end, 1));
        wires("lost", x, end, "[22: 1 2 3]");
        CHECK.yes("lose", x.lose(end, 0));
        CHECK.no("lose", x.lose(end, 0));
        wires("lost", x, end, "");
        Hand.send(x, 1 - end, 9, 0, 9);
        wires("used again", x, end, "[9: 9]");
    }

    private static void copies(int end) {
        SealedRecords x = three(end);
        for (int k : FAR) {
            CHECK.no("copy " + k, x.copy(end, k));
        }
        CHECK.yes("copy", x.copy(end, 0));
        wires("copied", x, end, "[22: 1 2 3][23:][255: 0][22: 1 2 3]");
        x.alter(end, 0, 1, 8);
        x.cut(end, 3);
        wires("a copy is a record of its own", x, end, "[22: 9 2 3][23:][255: 0][22: 1 2]");
        CHECK.yes("copy the newest", x.copy(end, 3));
        CHECK.yes("copy an empty one", x.copy(end, 1));
        wires("copied", x, end, "[22: 9 2 3][23:][255: 0][22: 1 2][22: 1 2][23:]");
        for (int n = 6; n < 12; n++) {
            CHECK.yes("copy", x.copy(end, 0));
        }
        String before = Hand.all(x);
        CHECK.no("copy when 12 wait", x.copy(end, 0));
        CHECK.due("nothing changed", Hand.all(x), before);
        CHECK.yes("copy on the other wire", x.copy(1 - end, 0));
        x.lose(end, 0);
        CHECK.yes("copy when 11 wait", x.copy(end, 1));
        SealedRecords y = new SealedRecords(100);
        y.inject(end, 3, 40, 200);
        CHECK.yes("copy a long one", y.copy(end, 0));
        CHECK.due("copied", Hand.record(y, end, 1), Hand.record(y, end, 0));
    }

    private static void swaps(int end) {
        SealedRecords x = three(end);
        String before = Hand.all(x);
        for (int k : FAR) {
            CHECK.no("swap " + k, x.swap(end, k));
        }
        CHECK.no("swap the last", x.swap(end, 2));
        CHECK.no("swap the only one", x.swap(1 - end, 0));
        CHECK.due("nothing changed", Hand.all(x), before);
        CHECK.yes("swap", x.swap(end, 0));
        wires("swapped", x, end, "[23:][22: 1 2 3][255: 0]");
        CHECK.yes("swap", x.swap(end, 1));
        wires("swapped", x, end, "[23:][255: 0][22: 1 2 3]");
    }

    private static void injects(int end) {
        SealedRecords x = three(end);
        String before = Hand.all(x);
        for (int b : new int[] {-1, 256, Integer.MIN_VALUE, Integer.MAX_VALUE}) {
            CHECK.no("type " + b, x.inject(end, b, 1, 1));
            CHECK.no("x " + b, x.inject(end, 1, 1, b));
            CHECK.no("x " + b + " with no byte", x.inject(end, 1, 0, b));
        }
        for (int n : new int[] {-1, 41, Integer.MIN_VALUE, Integer.MAX_VALUE}) {
            CHECK.no("n " + n, x.inject(end, 1, n, 1));
        }
        CHECK.due("nothing changed", Hand.all(x), before);
        CHECK.yes("inject", x.inject(end, 0, 0, 255));
        CHECK.yes("inject", x.inject(end, 255, 3, 255));
        CHECK.yes("inject", x.inject(end, 20, 1, 0));
        wires("injected", x, end, "[22: 1 2 3][23:][255: 0][0:][255: 255 255 255][20: 0]");
        CHECK.yes("inject 40", x.inject(end, 1, 40, 77));
        CHECK.due("40 bytes", x.wire(end, 6, -1), 40);
        CHECK.due("the last of 40", x.wire(end, 6, 40), 77);
        for (int n = 7; n < 12; n++) {
            CHECK.yes("inject", x.inject(end, 1, 1, 1));
        }
        CHECK.no("inject when 12 wait", x.inject(end, 1, 1, 1));
        CHECK.due("waiting", x.waiting(end), 12);
        CHECK.due("the counts have nothing to do with it", x.look(0, 2) + x.look(1, 2), 4);
    }

    private static void noSuchEnd() {
        SealedRecords x = three(0);
        String before = Hand.all(x);
        for (int end : Hand.NO_ENDS) {
            CHECK.no("alter", x.alter(end, 0, 0, 1));
            CHECK.no("cut", x.cut(end, 0));
            CHECK.no("lose", x.lose(end, 0));
            CHECK.no("copy", x.copy(end, 0));
            CHECK.no("swap", x.swap(end, 0));
            CHECK.no("inject", x.inject(end, 1, 1, 1));
        }
        CHECK.due("nothing changed", Hand.all(x), before);
    }

    private static void emptyWires() {
        SealedRecords x = new SealedRecords(100);
        for (int end = 0; end < 2; end++) {
            CHECK.no("alter", x.alter(end, 0, 0, 1));
            CHECK.no("cut", x.cut(end, 0));
            CHECK.no("lose", x.lose(end, 0));
            CHECK.no("copy", x.copy(end, 0));
            CHECK.no("swap", x.swap(end, 0));
        }
    }

    /** A record that left the wire, and one that came after it, have nothing in common. */
    private static void rowsAreNotShared() {
        SealedRecords x = new SealedRecords(100);
        Hand.send(x, 0, 22, 0, 5, 2, 8, 9);
        Hand.send(x, 0, 22, 0, 6, 0);
        CHECK.due("deliver", x.deliver(1), 4);
        for (int n = 0; n < 11; n++) {
            x.inject(1, 99, 40, 99);
        }
        CHECK.due("the item stays", Hand.oldestItem(x, 1), "22: 5 2 8 9");
        CHECK.due("the record stays", Hand.record(x, 1, 0), "22: 6 0");
        CHECK.due("deliver", x.deliver(1), 2);
        x.take(1);
        CHECK.due("the next item", Hand.oldestItem(x, 1), "22: 6 0");
        SealedRecords y = new SealedRecords(100);
        CHECK.due("another object", Hand.all(y), Hand.all(new SealedRecords(1)));
    }
}
