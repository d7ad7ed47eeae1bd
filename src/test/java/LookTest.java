/** Promises 14 (waiting), 15 (wire), 16 (items), 17 (item), 18 (take) and 19 (look). */
public final class LookTest {
    private static final Check CHECK = new Check();
    private static final int NONE = SealedRecords.NONE;

    public static void main(String[] args) {
        waiting();
        waitingOfNoEnd();
        wireOfEachByte();
        wireOfNoByte();
        wireOfNoRecord();
        wireOfNoEnd();
        items();
        itemsOfNoEnd();
        itemOfEachByte();
        itemOfNoByte();
        itemOfNone();
        itemOfNoEnd();
        take();
        takeOfNone();
        takeOfNoEnd();
        looks();
        reasons();
        lookAtNothing();
        lookAtNoEnd();
        lookingChangesNothing();
        CHECK.finish();
    }

    /** At stage 2, with two items and two records for each end. */
    private static Counted busy() {
        Counted x = Hand.atStage(2);
        for (int end = 0; end < 2; end++) {
            Hand.pass(x, end, 23, 1);
            Hand.pass(x, end, 23, 2);
            Hand.send(x, end, 23, 0, 3);
            Hand.send(x, end, 23, 0, 4);
        }
        return x;
    }

    private static void waiting() {
        CHECK.sentence("The number of records on the wire to the end");
        Counted x = new Counted(100);
        for (int n = 0; n < 12; n++) {
            CHECK.due("waiting", x.waiting(0), n);
            x.inject(0, 20, 1, 1);
        }
        CHECK.due("waiting", x.waiting(0), 12);
        x.inject(0, 20, 1, 1);
        CHECK.due("no more than 12", x.waiting(0), 12);
        CHECK.due("the other wire", x.waiting(1), 0);
        x.deliver(0);
        CHECK.due("one delivered", x.waiting(0), 11);
        x.lose(0, 4);
        CHECK.due("one lost", x.waiting(0), 10);
        x.seal(0, 22, 0);
        CHECK.due("the other wire", x.waiting(1), 1);
    }

    private static void waitingOfNoEnd() {
        CHECK.sentence("NONE when there is no such end.");
        Counted x = busy();
        for (int end : Hand.NO_ENDS) {
            CHECK.due("waiting(" + end + ")", x.waiting(end), NONE);
        }
    }

    /** On the wire to end 0: three bytes, none, forty. */
    private static Counted wires() {
        Counted x = new Counted(100);
        Hand.send(x, 1, 22, 0, 10, 0, 30);
        Hand.send(x, 1, 0, 0);
        x.inject(0, 255, 40, 255);
        return x;
    }

    private static void wireOfEachByte() {
        CHECK.sentence("Of record k on the wire to the end: the number of bytes of its payload for i = -1, its type for i = 0, byte i - 1 of its payload for greater i");
        Counted x = wires();
        int[][] due = {{3, 22, 10, 0, 30}, {0, 0}, new int[42]};
        java.util.Arrays.fill(due[2], 255);
        due[2][0] = 40;
        for (int k = 0; k < due.length; k++) {
            for (int i = -1; i < due[k].length - 1; i++) {
                CHECK.due("wire(0, " + k + ", " + i + ")", x.wire(0, k, i), due[k][i + 1]);
            }
        }
    }

    private static void wireOfNoByte() {
        CHECK.sentence("NONE when there is no such end, record or byte.");
        Counted x = wires();
        int[] sizes = {3, 0, 40};
        for (int k = 0; k < sizes.length; k++) {
            for (int i : new int[] {-2, -3, Integer.MIN_VALUE, sizes[k] + 1, sizes[k] + 2, 41, 42, Integer.MAX_VALUE}) {
                CHECK.due("wire(0, " + k + ", " + i + ")", x.wire(0, k, i), NONE);
            }
        }
        x.cut(0, 0);
        CHECK.due("a byte that was cut", x.wire(0, 0, 3), NONE);
    }

    private static void wireOfNoRecord() {
        CHECK.sentence("NONE when there is no such end, record or byte.");
        Counted x = wires();
        for (int k : new int[] {-1, 3, 4, 11, 12, Integer.MIN_VALUE, Integer.MAX_VALUE}) {
            for (int i = -1; i <= 1; i++) {
                CHECK.due("wire(0, " + k + ", " + i + ")", x.wire(0, k, i), NONE);
            }
        }
        CHECK.due("the other wire", x.wire(1, 0, -1), NONE);
        CHECK.due("an empty wire", new Counted(100).wire(0, 0, 0), NONE);
        Hand.inject(x, 0, 9);
        CHECK.due("the twelfth", x.wire(0, 11, 0), 20);
        CHECK.due("a thirteenth", x.wire(0, 12, 0), NONE);
    }

    private static void wireOfNoEnd() {
        CHECK.sentence("NONE when there is no such end, record or byte.");
        Counted x = busy();
        for (int end : Hand.NO_ENDS) {
            for (int i = -1; i <= 1; i++) {
                CHECK.due("wire(" + end + ", 0, " + i + ")", x.wire(end, 0, i), NONE);
            }
        }
    }

    private static void items() {
        CHECK.sentence("The number of items of the end that wait");
        Counted x = Hand.atStage(2);
        for (int n = 0; n < 16; n++) {
            CHECK.due("items", x.items(1), n);
            Hand.pass(x, 0, 23, n);
        }
        CHECK.due("items", x.items(1), 16);
        CHECK.due("of the other end", x.items(0), 0);
        for (int n = 15; n >= 0; n--) {
            x.take(1);
            CHECK.due("items", x.items(1), n);
        }
    }

    private static void itemsOfNoEnd() {
        CHECK.sentence("NONE when there is no such end.");
        Counted x = busy();
        for (int end : Hand.NO_ENDS) {
            CHECK.due("items(" + end + ")", x.items(end), NONE);
        }
    }

    private static void itemOfEachByte() {
        CHECK.sentence("Of the oldest item of the end: its type for i = -2, its number of bytes for i = -1, its byte i for i from 0 on");
        Counted x = Hand.atStage(2);
        Hand.pass(x, 1, 22, 5, 2, 0, 255);
        Hand.pass(x, 1, 23);
        Hand.pass(x, 1, 23, 0, 1, 2, 3, 4, 5, 6, 7, 8, 9, 10, 11, 12, 13, 14, 15);
        int[][] due = {{22, 4, 5, 2, 0, 255}, {23, 0}, {23, 16, 0, 1, 2, 3, 4, 5, 6, 7, 8, 9, 10, 11, 12, 13, 14, 15}};
        for (int[] item : due) {
            for (int i = -2; i < item.length - 2; i++) {
                CHECK.due("item(0, " + i + ")", x.item(0, i), item[i + 2]);
            }
            x.take(0);
        }
    }

    private static void itemOfNoByte() {
        CHECK.sentence("NONE when there is no such end, item or byte.");
        Counted x = Hand.atStage(2);
        int[] sizes = {4, 0, 16, 1};
        for (int size : sizes) {
            Hand.pass(x, 1, 23, new int[size]);
        }
        for (int size : sizes) {
            for (int i : new int[] {-3, -4, Integer.MIN_VALUE, size, size + 1, 16, 17, Integer.MAX_VALUE}) {
                CHECK.due("item(0, " + i + ") of " + size + " bytes", x.item(0, i), NONE);
            }
            x.take(0);
        }
    }

    private static void itemOfNone() {
        CHECK.sentence("NONE when there is no such end, item or byte.");
        Counted x = Hand.atStage(2);
        for (int i = -3; i < 2; i++) {
            CHECK.due("before the first", x.item(0, i), NONE);
        }
        Hand.pass(x, 1, 23, 5);
        CHECK.due("of the other end", x.item(1, -2), NONE);
        x.take(0);
        for (int i = -3; i < 2; i++) {
            CHECK.due("when it was taken", x.item(0, i), NONE);
        }
    }

    private static void itemOfNoEnd() {
        CHECK.sentence("NONE when there is no such end, item or byte.");
        Counted x = busy();
        for (int end : Hand.NO_ENDS) {
            for (int i = -2; i <= 0; i++) {
                CHECK.due("item(" + end + ", " + i + ")", x.item(end, i), NONE);
            }
        }
    }

    private static void take() {
        CHECK.sentence("Takes the oldest item of the end away. Answers true");
        Counted x = Hand.atStage(2);
        for (int n = 0; n < 16; n++) {
            Hand.pass(x, 0, 23, n, n);
        }
        for (int n = 0; n < 16; n++) {
            CHECK.due("the oldest", Hand.oldestItem(x, 1), Hand.record(23, n, n));
            CHECK.yes("take", x.take(1));
        }
        CHECK.due("goes on", Hand.pass(x, 0, 23, 9), 1);
        CHECK.due("the oldest", Hand.oldestItem(x, 1), "23: 9");
    }

    private static void takeOfNone() {
        CHECK.sentence("false when there is no such end or no item waits.");
        Counted x = Hand.atStage(2);
        CHECK.no("before the first", x.take(1));
        Hand.send(x, 0, 23, 0, 1);
        CHECK.no("a record is no item", x.take(1));
        x.deliver(1);
        CHECK.no("of the other end", x.take(0));
        CHECK.yes("take", x.take(1));
        CHECK.no("take again", x.take(1));
        CHECK.due("items", x.items(1), 0);
    }

    private static void takeOfNoEnd() {
        CHECK.sentence("false when there is no such end or no item waits.");
        Counted x = busy();
        for (int end : Hand.NO_ENDS) {
            CHECK.no("take(" + end + ")", x.take(end));
        }
        CHECK.due("items", x.items(0) + x.items(1), 4);
    }

    /** Each of the ten is brought to a number that tells it from the others. */
    private static void looks() {
        CHECK.sentence("Of an end: what 0 the chain's stage, 1 the sending side's stage, 2 its count, 3 whether it is closed, 4 the receiving side's stage, 5 its count, 6 the REASON with which it was closed (NONE when it is not), 7 whether a message is OPEN, 8 whether the end owes a change, 9 the number of bytes of the draft (whether: 1 or 0).");
        Counted x = new Counted(100);
        x.secret(0, 1);
        CHECK.due("the chain's stage", Hand.looks(x, 0), "1 0 0 0 0 0 -1 0 0 0");
        x.secret(0, 2);
        x.key(0, true);
        CHECK.due("the sending stage", Hand.looks(x, 0), "2 2 0 0 0 0 -1 0 0 0");
        for (int n = 0; n < 5; n++) {
            x.seal(0, 23, 0);
        }
        CHECK.due("the sending count", Hand.looks(x, 0), "2 2 5 0 0 0 -1 0 0 0");
        x.secret(1, 1);
        x.key(1, false);
        x.secret(1, 2);
        CHECK.due("the receiving stage", Hand.looks(x, 1), "2 0 0 0 1 0 -1 0 0 0");
        x.key(1, false);
        for (int n = 0; n < 5; n++) {
            x.deliver(1);
        }
        CHECK.due("the receiving count", Hand.looks(x, 1), "2 0 0 0 2 5 -1 0 0 0");
        Hand.pass(x, 0, 22, 24, 1, 1);
        CHECK.due("owes", Hand.looks(x, 1), "2 0 0 0 2 0 -1 0 1 0");
        x.advance(0);
        Hand.pass(x, 0, 22, 9);
        CHECK.due("open", Hand.looks(x, 1), "2 0 0 0 2 1 -1 1 1 0");
        x.write(1, 4);
        x.write(1, 4);
        CHECK.due("draft", Hand.looks(x, 1), "2 0 0 0 2 1 -1 1 1 2");
        x.seal(1, 21, 0);
        CHECK.due("sending closed", Hand.looks(x, 1), "2 0 1 1 2 1 -1 1 1 0");
        Hand.pass(x, 0, 23, 4);
        CHECK.due("reason", Hand.looks(x, 1), "2 0 1 1 2 2 266 1 1 0");
        CHECK.due("the other end", Hand.looks(x, 0), "2 2 2 0 0 0 -1 0 0 0");
    }

    private static void reasons() {
        CHECK.sentence("6 the REASON with which it was closed (NONE when it is not)");
        Counted x = new Counted(100);
        CHECK.due("not closed", x.look(1, 6), NONE);
        Hand.pass(x, 0, 21, 9, 0);
        CHECK.due("the reason 0", x.look(1, 6), 0);
        CHECK.due("the other end is not closed", x.look(0, 6), NONE);
        Counted y = new Counted(100);
        y.inject(0, 21, 0, 0);
        y.deliver(0);
        CHECK.due("an alert", y.look(0, 6), 306);
        y.inject(0, 0, 0, 0);
        y.deliver(0);
        CHECK.due("the first reason stays", y.look(0, 6), 306);
    }

    private static void lookAtNothing() {
        CHECK.sentence("NONE when there is no such end or what.");
        Counted x = busy();
        for (int what : new int[] {-1, -2, 10, 11, 256, Integer.MIN_VALUE, Integer.MAX_VALUE}) {
            CHECK.due("look(0, " + what + ")", x.look(0, what), NONE);
            CHECK.due("look(1, " + what + ")", x.look(1, what), NONE);
        }
    }

    private static void lookAtNoEnd() {
        CHECK.sentence("NONE when there is no such end or what.");
        Counted x = busy();
        for (int end : Hand.NO_ENDS) {
            for (int what = -1; what <= 10; what++) {
                CHECK.due("look(" + end + ", " + what + ")", x.look(end, what), NONE);
            }
        }
    }

    private static void lookingChangesNothing() {
        CHECK.sentence("Nothing is promised beyond the answers and state changes described above");
        Counted x = busy();
        Hand.all(x);
        CHECK.due("the same from here on", Hand.future(x), Hand.future(busy()));
    }
}
