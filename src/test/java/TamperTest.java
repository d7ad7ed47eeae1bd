/** Promises 8 (alter), 9 (cut), 10 (lose), 11 (copy), 12 (swap) and 13 (inject). */
public final class TamperTest {
    private static final Check CHECK = new Check();
    /** Where three records wait, none of these is one. */
    private static final int[] NO_RECORDS = {-1, -2, 3, 4, 11, 12, Integer.MIN_VALUE, Integer.MAX_VALUE};

    public static void main(String[] args) {
        for (int end = 0; end < 2; end++) {
            altersTheType(end);
            altersAByte(end);
            altersNoRecord(end);
            altersNoByte(end);
            altersByNoByte(end);
            cutsTheLastByte(end);
            cutsNoRecord(end);
            cutsNothing(end);
            loses(end);
            losesNoRecord(end);
            copies(end);
            copiesApart(end);
            copiesNoRecord(end);
            copiesOntoAFullWire(end);
            swaps(end);
            swapsNotBoth(end);
            injects(end);
            injectsNoByte(end);
            injectsNoLength(end);
            injectsOntoAFullWire(end);
            emptyWire(end);
        }
        noSuchEnd();
        rowsAreNotShared();
        CHECK.finish();
    }

    /** An object with three records on the wire to the end, and one on the other wire. */
    private static Counted three(int end) {
        Counted x = new Counted(100);
        Hand.send(x, 1 - end, 22, 0, 1, 2, 3);
        Hand.send(x, 1 - end, 23, 0);
        Hand.send(x, 1 - end, 255, 0, 0);
        Hand.send(x, end, 7, 0, 7, 7);
        return x;
    }

    private static void wires(String what, Counted x, int end, String due) {
        CHECK.due(what, Hand.wire(x, end), due);
        CHECK.due(what + ": the other wire", Hand.wire(x, 1 - end), "[7: 7 7]");
    }

    private static void altersTheType(int end) {
        CHECK.sentence("In record k on the wire to the end, the type (i = 0) or byte i - 1 of the payload is combined with x by ^. Answers true");
        Counted x = three(end);
        CHECK.yes("the first record's", x.alter(end, 0, 0, 255));
        CHECK.yes("an empty record's", x.alter(end, 1, 0, 3));
        CHECK.yes("the last record's", x.alter(end, 2, 0, 1));
        wires("altered", x, end, "[233: 1 2 3][20:][254: 0]");
        CHECK.yes("back", x.alter(end, 0, 0, 255));
        wires("altered back", x, end, "[22: 1 2 3][20:][254: 0]");
    }

    private static void altersAByte(int end) {
        CHECK.sentence("In record k on the wire to the end, the type (i = 0) or byte i - 1 of the payload is combined with x by ^. Answers true");
        Counted x = three(end);
        CHECK.yes("the first byte, least x", x.alter(end, 0, 1, 1));
        CHECK.yes("the last byte, greatest x", x.alter(end, 0, 3, 255));
        CHECK.yes("the only byte", x.alter(end, 2, 1, 128));
        wires("altered", x, end, "[22: 0 2 252][23:][255: 128]");
        Counted y = new Counted(100);
        y.inject(end, 1, 40, 170);
        CHECK.yes("the fortieth byte", y.alter(end, 0, 40, 85));
        CHECK.due("the fortieth byte", y.wire(end, 0, 40), 255);
        CHECK.due("the one before", y.wire(end, 0, 39), 170);
    }

    private static void altersNoRecord(int end) {
        CHECK.sentence("false when there is no such end, record or byte, or x is not 1 .. 255.");
        Counted x = three(end);
        for (int k : NO_RECORDS) {
            CHECK.no("record " + k, x.alter(end, k, 0, 1));
            CHECK.no("record " + k, x.alter(end, k, 1, 1));
        }
        wires("nothing changed", x, end, "[22: 1 2 3][23:][255: 0]");
    }

    private static void altersNoByte(int end) {
        CHECK.sentence("false when there is no such end, record or byte, or x is not 1 .. 255.");
        Counted x = three(end);
        for (int i : new int[] {-1, -2, 4, 5, 40, 41, Integer.MIN_VALUE, Integer.MAX_VALUE}) {
            CHECK.no("byte " + i, x.alter(end, 0, i, 1));
        }
        CHECK.no("a byte of an empty record", x.alter(end, 1, 1, 1));
        wires("nothing changed", x, end, "[22: 1 2 3][23:][255: 0]");
        x.cut(end, 0);
        CHECK.no("a byte that was cut", x.alter(end, 0, 3, 1));
        Counted y = new Counted(100);
        y.inject(end, 1, 40, 0);
        CHECK.no("a byte behind the fortieth", y.alter(end, 0, 41, 1));
    }

    private static void altersByNoByte(int end) {
        CHECK.sentence("or x is not 1 .. 255.");
        Counted x = three(end);
        for (int v : new int[] {0, -1, 256, 257, -255, Integer.MIN_VALUE, Integer.MAX_VALUE}) {
            CHECK.no("x " + v, x.alter(end, 0, 0, v));
            CHECK.no("x " + v, x.alter(end, 0, 1, v));
        }
        wires("nothing changed", x, end, "[22: 1 2 3][23:][255: 0]");
    }

    private static void cutsTheLastByte(int end) {
        CHECK.sentence("Takes the last byte of the payload of record k on the wire to the end away. Answers true");
        Counted x = three(end);
        CHECK.yes("cut", x.cut(end, 0));
        wires("cut", x, end, "[22: 1 2][23:][255: 0]");
        CHECK.yes("cut", x.cut(end, 2));
        wires("cut", x, end, "[22: 1 2][23:][255:]");
        CHECK.due("no byte is there", x.wire(end, 0, 3), SealedRecords.NONE);
        Counted y = new Counted(100);
        y.inject(end, 1, 40, 9);
        for (int n = 39; n >= 0; n--) {
            CHECK.yes("cut", y.cut(end, 0));
            CHECK.due("bytes", y.wire(end, 0, -1), n);
        }
        CHECK.due("it is a record still", y.waiting(end), 1);
    }

    private static void cutsNoRecord(int end) {
        CHECK.sentence("false when there is no such end or record, or the payload is empty.");
        Counted x = three(end);
        for (int k : NO_RECORDS) {
            CHECK.no("record " + k, x.cut(end, k));
        }
        wires("nothing changed", x, end, "[22: 1 2 3][23:][255: 0]");
    }

    private static void cutsNothing(int end) {
        CHECK.sentence("or the payload is empty.");
        Counted x = three(end);
        CHECK.no("a record that came empty", x.cut(end, 1));
        CHECK.yes("the last byte", x.cut(end, 2));
        CHECK.no("a record that was cut empty", x.cut(end, 2));
        CHECK.no("and again", x.cut(end, 2));
        wires("cut", x, end, "[22: 1 2 3][23:][255:]");
    }

    private static void loses(int end) {
        CHECK.sentence("Takes record k off the wire to the end. Answers true");
        Counted x = three(end);
        CHECK.yes("from the middle", x.lose(end, 1));
        wires("lost", x, end, "[22: 1 2 3][255: 0]");
        CHECK.yes("the newest", x.lose(end, 1));
        wires("lost", x, end, "[22: 1 2 3]");
        CHECK.yes("the only one", x.lose(end, 0));
        wires("lost", x, end, "");
        Hand.send(x, 1 - end, 9, 0, 9);
        wires("used again", x, end, "[9: 9]");
        Counted y = new Counted(100);
        for (int i = 0; i < 12; i++) {
            y.inject(end, i, 0, 0);
        }
        CHECK.yes("the oldest of twelve", y.lose(end, 0));
        CHECK.yes("the newest of eleven", y.lose(end, 10));
        CHECK.due("the rest in order", Hand.wire(y, end), "[1:][2:][3:][4:][5:][6:][7:][8:][9:][10:]");
    }

    private static void losesNoRecord(int end) {
        CHECK.sentence("false when there is no such end or record.");
        Counted x = three(end);
        for (int k : NO_RECORDS) {
            CHECK.no("record " + k, x.lose(end, k));
        }
        wires("nothing changed", x, end, "[22: 1 2 3][23:][255: 0]");
        x.lose(end, 0);
        CHECK.no("the one that moved up", x.lose(end, 2));
        Counted y = new Counted(100);
        Hand.inject(y, end, 12);
        CHECK.no("a thirteenth", y.lose(end, 12));
    }

    private static void copies(int end) {
        CHECK.sentence("A copy of record k on the wire to the end becomes the newest there. Answers true");
        Counted x = three(end);
        CHECK.yes("the oldest", x.copy(end, 0));
        CHECK.yes("an empty one", x.copy(end, 1));
        CHECK.yes("the newest", x.copy(end, 4));
        CHECK.yes("one in between", x.copy(end, 2));
        wires("copied", x, end, "[22: 1 2 3][23:][255: 0][22: 1 2 3][23:][23:][255: 0]");
        Counted y = new Counted(100);
        y.inject(end, 3, 40, 200);
        CHECK.yes("forty bytes", y.copy(end, 0));
        CHECK.due("forty bytes", Hand.record(y, end, 1), Hand.record(y, end, 0));
    }

    private static void copiesApart(int end) {
        CHECK.sentence("A copy of record k on the wire to the end becomes the newest there.");
        Counted x = three(end);
        x.copy(end, 0);
        x.alter(end, 0, 1, 8);
        x.alter(end, 0, 0, 1);
        x.cut(end, 3);
        wires("a copy is a record of its own", x, end, "[23: 9 2 3][23:][255: 0][22: 1 2]");
    }

    private static void copiesNoRecord(int end) {
        CHECK.sentence("false when there is no such end or record, or 12 wait there.");
        Counted x = three(end);
        for (int k : NO_RECORDS) {
            CHECK.no("record " + k, x.copy(end, k));
        }
        wires("nothing changed", x, end, "[22: 1 2 3][23:][255: 0]");
    }

    private static void copiesOntoAFullWire(int end) {
        CHECK.sentence("or 12 wait there.");
        Counted x = three(end);
        for (int n = 3; n < 12; n++) {
            CHECK.yes("copy when " + n + " wait", x.copy(end, 0));
        }
        CHECK.no("copy when 12 wait", x.copy(end, 0));
        CHECK.no("copy the newest when 12 wait", x.copy(end, 11));
        CHECK.due("waiting", x.waiting(end), 12);
        CHECK.yes("on the other wire", x.copy(1 - end, 0));
        x.lose(end, 5);
        CHECK.yes("when 11 wait again", x.copy(end, 1));
        CHECK.due("the newest", Hand.record(x, end, 11), "23:");
    }

    private static void swaps(int end) {
        CHECK.sentence("Records k and k + 1 on the wire to the end change places. Answers true");
        Counted x = three(end);
        CHECK.yes("the first two", x.swap(end, 0));
        wires("swapped", x, end, "[23:][22: 1 2 3][255: 0]");
        CHECK.yes("the last two", x.swap(end, 1));
        wires("swapped", x, end, "[23:][255: 0][22: 1 2 3]");
        Counted y = new Counted(100);
        for (int i = 0; i < 12; i++) {
            y.inject(end, i, 0, 0);
        }
        CHECK.yes("the last two of twelve", y.swap(end, 10));
        CHECK.due("swapped", Hand.wire(y, end), "[0:][1:][2:][3:][4:][5:][6:][7:][8:][9:][11:][10:]");
        CHECK.no("the last of twelve with none", y.swap(end, 11));
    }

    private static void swapsNotBoth(int end) {
        CHECK.sentence("false when there is no such end, or not both are there.");
        Counted x = three(end);
        CHECK.no("the last with none", x.swap(end, 2));
        CHECK.no("none with the first", x.swap(end, -1));
        CHECK.no("the only one", x.swap(1 - end, 0));
        for (int k : NO_RECORDS) {
            CHECK.no("record " + k, x.swap(end, k));
        }
        CHECK.no("k + 1 would wrap", x.swap(end, Integer.MAX_VALUE));
        wires("nothing changed", x, end, "[22: 1 2 3][23:][255: 0]");
    }

    private static void injects(int end) {
        CHECK.sentence("A record of this type with a payload of n bytes x becomes the newest on the wire to the end. Answers true");
        Counted x = three(end);
        CHECK.yes("least type, no byte, greatest x", x.inject(end, 0, 0, 255));
        CHECK.yes("greatest type and x", x.inject(end, 255, 3, 255));
        CHECK.yes("least x", x.inject(end, 20, 1, 0));
        wires("injected", x, end, "[22: 1 2 3][23:][255: 0][0:][255: 255 255 255][20: 0]");
        CHECK.yes("forty bytes", x.inject(end, 1, 40, 77));
        CHECK.due("bytes", x.wire(end, 6, -1), 40);
        CHECK.due("the first", x.wire(end, 6, 1), 77);
        CHECK.due("the last", x.wire(end, 6, 40), 77);
        CHECK.due("the counts have nothing to do with it", x.look(end, 2) + x.look(1 - end, 2), 4);
    }

    private static void injectsNoByte(int end) {
        CHECK.sentence("false when there is no such end, type or x is not 0 .. 255, n is not 0 .. 40, or 12 records wait there.");
        Counted x = three(end);
        for (int b : Hand.NO_BYTES) {
            CHECK.no("type " + b, x.inject(end, b, 1, 1));
            CHECK.no("x " + b, x.inject(end, 1, 1, b));
            CHECK.no("x " + b + ", though n is 0", x.inject(end, 1, 0, b));
        }
        wires("nothing changed", x, end, "[22: 1 2 3][23:][255: 0]");
    }

    private static void injectsNoLength(int end) {
        CHECK.sentence("n is not 0 .. 40");
        Counted x = three(end);
        for (int n : new int[] {-1, 41, 42, 256, Integer.MIN_VALUE, Integer.MAX_VALUE}) {
            CHECK.no("n " + n, x.inject(end, 1, n, 1));
        }
        wires("nothing changed", x, end, "[22: 1 2 3][23:][255: 0]");
    }

    private static void injectsOntoAFullWire(int end) {
        CHECK.sentence("or 12 records wait there.");
        Counted x = three(end);
        for (int n = 3; n < 12; n++) {
            CHECK.yes("inject when " + n + " wait", x.inject(end, n, 0, 0));
        }
        CHECK.no("inject when 12 wait", x.inject(end, 1, 1, 1));
        CHECK.due("waiting", x.waiting(end), 12);
        CHECK.due("the newest", Hand.record(x, end, 11), "11:");
        CHECK.yes("on the other wire", x.inject(1 - end, 1, 1, 1));
        x.lose(end, 0);
        CHECK.yes("when 11 wait again", x.inject(end, 1, 1, 1));
    }

    private static void emptyWire(int end) {
        CHECK.sentence("false when there is no such end or record");
        Counted x = new Counted(100);
        x.inject(1 - end, 1, 1, 1);
        x.inject(1 - end, 1, 1, 1);
        CHECK.no("alter", x.alter(end, 0, 0, 1));
        CHECK.no("cut", x.cut(end, 0));
        CHECK.no("lose", x.lose(end, 0));
        CHECK.no("copy", x.copy(end, 0));
        CHECK.no("swap", x.swap(end, 0));
    }

    private static void noSuchEnd() {
        CHECK.sentence("false when there is no such end");
        Counted x = three(0);
        x.copy(1, 0);
        String before = Hand.all(x);
        for (int end : Hand.NO_ENDS) {
            CHECK.no("alter", x.alter(end, 0, 0, 1));
            CHECK.no("cut", x.cut(end, 0));
            CHECK.no("lose", x.lose(end, 0));
            CHECK.no("copy", x.copy(end, 0));
            CHECK.no("swap", x.swap(end, 0));
            CHECK.no("inject", x.inject(end, 1, 1, 1));
        }
        CHECK.due("nothing changed", Hand.all(x), before);
    }

    /** A record that left the wire, and one that came after it, have nothing in common. */
    private static void rowsAreNotShared() {
        CHECK.sentence("Takes record 0 off the wire to the end");
        Counted x = new Counted(100);
        Hand.send(x, 0, 22, 0, 5, 2, 8, 9);
        Hand.send(x, 0, 22, 0, 6, 0);
        CHECK.due("deliver", x.deliver(1), 4);
        for (int n = 0; n < 11; n++) {
            x.inject(1, 99, 40, 99);
        }
        CHECK.due("the item stays", Hand.oldestItem(x, 1), "22: 5 2 8 9");
        CHECK.due("the record stays", Hand.record(x, 1, 0), "22: 6 0");
        CHECK.due("deliver", x.deliver(1), 2);
        x.take(1);
        CHECK.due("the next item", Hand.oldestItem(x, 1), "22: 6 0");
    }
}
