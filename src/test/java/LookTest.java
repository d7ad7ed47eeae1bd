/** Promises 14 (waiting), 15 (wire), 16 (items), 17 (item), 18 (take) and 19 (look). */
public final class LookTest {
    private static final Check CHECK = new Check();
    private static final int NONE = SealedRecords.NONE;

    public static void main(String[] args) {
        noSuchEnd();
        waiting();
        wire();
        itemsAndTake();
        item();
        looks();
        lookRefuses();
        CHECK.finish();
    }

    private static void noSuchEnd() {
        SealedRecords x = Hand.atStage(2);
        Hand.pass(x, 0, 23, 1);
        Hand.pass(x, 1, 23, 1);
        Hand.send(x, 0, 23, 0, 1);
        Hand.send(x, 1, 23, 0, 1);
        for (int end : Hand.NO_ENDS) {
            CHECK.due("waiting", x.waiting(end), NONE);
            CHECK.due("items", x.items(end), NONE);
            CHECK.no("take", x.take(end));
            for (int i = -2; i < 2; i++) {
                CHECK.due("wire", x.wire(end, 0, i), NONE);
                CHECK.due("item", x.item(end, i), NONE);
            }
            for (int what = 0; what < 10; what++) {
                CHECK.due("look", x.look(end, what), NONE);
            }
        }
        CHECK.due("items", x.items(0) + x.items(1), 2);
    }

    private static void waiting() {
        SealedRecords x = new SealedRecords(100);
        for (int n = 0; n < 12; n++) {
            CHECK.due("waiting", x.waiting(0), n);
            x.inject(0, 20, 1, 1);
        }
        x.inject(0, 20, 1, 1);
        CHECK.due("waiting", x.waiting(0), 12);
        CHECK.due("the other wire", x.waiting(1), 0);
        x.deliver(0);
        CHECK.due("waiting", x.waiting(0), 11);
        x.lose(0, 4);
        CHECK.due("waiting", x.waiting(0), 10);
    }

    private static void wire() {
        SealedRecords x = new SealedRecords(100);
        CHECK.due("an empty wire", x.wire(0, 0, -1), NONE);
        Hand.send(x, 1, 22, 0, 10, 0, 30);
        Hand.send(x, 1, 0, 0);
        x.inject(0, 255, 40, 255);
        int[] i = {-1, 0, 1, 2, 3, -2, 4, 40, 41, Integer.MIN_VALUE, Integer.MAX_VALUE};
        int[][] due = {
            {3, 22, 10, 0, 30, NONE, NONE, NONE, NONE, NONE, NONE},
            {0, 0, NONE, NONE, NONE, NONE, NONE, NONE, NONE, NONE, NONE},
            {40, 255, 255, 255, 255, NONE, 255, 255, NONE, NONE, NONE},
        };
        for (int k = 0; k < due.length; k++) {
            for (int j = 0; j < i.length; j++) {
                CHECK.due("wire(0, " + k + ", " + i[j] + ")", x.wire(0, k, i[j]), due[k][j]);
            }
        }
        for (int k : new int[] {-1, 3, 11, 12, Integer.MIN_VALUE, Integer.MAX_VALUE}) {
            CHECK.due("wire(0, " + k + ", -1)", x.wire(0, k, -1), NONE);
            CHECK.due("wire(0, " + k + ", 0)", x.wire(0, k, 0), NONE);
        }
        CHECK.due("the other wire", x.wire(1, 0, 0), NONE);
    }

    private static void itemsAndTake() {
        SealedRecords x = Hand.atStage(2);
        CHECK.no("take nothing", x.take(1));
        for (int n = 0; n < 3; n++) {
            CHECK.due("items", x.items(1), n);
            Hand.pass(x, 0, 23, n, n);
        }
        CHECK.due("items of the other end", x.items(0), 0);
        CHECK.no("take of the other end", x.take(0));
        for (int n = 0; n < 3; n++) {
            CHECK.due("items", x.items(1), 3 - n);
            CHECK.due("the oldest", x.item(1, 1), n);
            CHECK.yes("take", x.take(1));
        }
        CHECK.due("items", x.items(1), 0);
        CHECK.no("take nothing", x.take(1));
        CHECK.due("goes on", Hand.pass(x, 0, 23, 9), 1);
        CHECK.due("the oldest", Hand.oldestItem(x, 1), "23: 9");
    }

    private static void item() {
        SealedRecords x = Hand.atStage(2);
        for (int i = -3; i < 2; i++) {
            CHECK.due("no item", x.item(0, i), NONE);
        }
        Hand.pass(x, 1, 22, 5, 2, 0, 255);
        Hand.pass(x, 1, 23);
        int[] i = {-2, -1, 0, 1, 2, 3, 4, 15, 16, -3, Integer.MIN_VALUE, Integer.MAX_VALUE};
        int[] due = {22, 4, 5, 2, 0, 255, NONE, NONE, NONE, NONE, NONE, NONE};
        for (int j = 0; j < i.length; j++) {
            CHECK.due("item(0, " + i[j] + ")", x.item(0, i[j]), due[j]);
        }
        x.take(0);
        int[] dueThen = {23, 0, NONE, NONE, NONE, NONE, NONE, NONE, NONE, NONE, NONE, NONE};
        for (int j = 0; j < i.length; j++) {
            CHECK.due("item(0, " + i[j] + ")", x.item(0, i[j]), dueThen[j]);
        }
        CHECK.due("no item of the other end", x.item(1, -2), NONE);
    }

    /** Each of the ten is brought to a number that no other has at that time. */
    private static void looks() {
        SealedRecords x = new SealedRecords(100);
        x.secret(0, 1);
        CHECK.due("the chain's stage", Hand.looks(x, 0), "1 0 0 0 0 0 -1 0 0 0");
        x.secret(0, 2);
        x.key(0, true);
        CHECK.due("the sending stage", Hand.looks(x, 0), "2 2 0 0 0 0 -1 0 0 0");
        for (int n = 0; n < 5; n++) {
            x.seal(0, 23, 0);
        }
        CHECK.due("the sending count", Hand.looks(x, 0), "2 2 5 0 0 0 -1 0 0 0");
        x.secret(1, 1);
        x.key(1, false);
        x.secret(1, 2);
        CHECK.due("the receiving stage", Hand.looks(x, 1), "2 0 0 0 1 0 -1 0 0 0");
        x.key(1, false);
        for (int n = 0; n < 3; n++) {
            x.deliver(1);
        }
        CHECK.due("the receiving count", Hand.looks(x, 1), "2 0 0 0 2 3 -1 0 0 0");
        x.deliver(1);
        x.deliver(1);
        Hand.pass(x, 0, 22, 24, 1, 1);
        CHECK.due("owes", Hand.looks(x, 1), "2 0 0 0 2 0 -1 0 1 0");
        x.advance(0);
        Hand.pass(x, 0, 22, 9);
        CHECK.due("open", Hand.looks(x, 1), "2 0 0 0 2 1 -1 1 1 0");
        x.write(1, 4);
        x.write(1, 4);
        CHECK.due("draft", Hand.looks(x, 1), "2 0 0 0 2 1 -1 1 1 2");
        x.seal(1, 21, 0);
        CHECK.due("sending closed", Hand.looks(x, 1), "2 0 1 1 2 1 -1 1 1 0");
        Hand.pass(x, 0, 23, 4);
        CHECK.due("reason", Hand.looks(x, 1), "2 0 1 1 2 2 266 1 1 0");
        CHECK.due("the other end", Hand.looks(x, 0), "2 2 2 0 0 0 -1 0 0 0");
        x.deliver(0);
        CHECK.due("the other end closed", Hand.looks(x, 0), "2 2 2 0 0 0 4 0 0 0");
    }

    private static void lookRefuses() {
        SealedRecords x = new SealedRecords(100);
        for (int what : new int[] {-1, 10, 11, Integer.MIN_VALUE, Integer.MAX_VALUE}) {
            CHECK.due("look(0, " + what + ")", x.look(0, what), NONE);
            CHECK.due("look(1, " + what + ")", x.look(1, what), NONE);
        }
    }
}
