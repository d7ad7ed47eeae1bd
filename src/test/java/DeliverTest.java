/** Promise 7 (deliver); what opening and judging make of a record is held in OpeningTest and JudgingTest. */
public final class DeliverTest {
    private static final Check CHECK = new Check();
    private static final int CLOSED = SealedRecords.CLOSED;
    private static final int FULL = SealedRecords.FULL;
    private static final int NONE = SealedRecords.NONE;

    public static void main(String[] args) {
        takesRecord0();
        answersTheBytes();
        answersIgnored();
        answersAlerts();
        noSuchEnd();
        noRecord();
        closed();
        closedTakesOff();
        closedDoesNothingElse();
        fullAt16();
        fullForAnyRecord();
        fullThenTaken();
        CHECK.finish();
    }

    private static void takesRecord0() {
        CHECK.sentence("Takes record 0 off the wire to the end");
        for (int end = 0; end < 2; end++) {
            Counted x = new Counted(100);
            Hand.send(x, 1 - end, 22, 0, 5, 0);
            Hand.send(x, 1 - end, 22, 0, 6, 0);
            Hand.send(x, end, 22, 0, 7, 0);
            CHECK.due("deliver", x.deliver(end), 2);
            CHECK.due("what is left", Hand.wire(x, end), "[22: 6 0]");
            CHECK.due("the other wire", Hand.wire(x, 1 - end), "[22: 7 0]");
            CHECK.due("item", Hand.oldestItem(x, end), "22: 5 0");
            CHECK.due("the other end's items", x.items(1 - end), 0);
        }
    }

    private static void answersTheBytes() {
        CHECK.sentence("Answers the number of bytes of the content when it was delivered");
        for (int stage = 0; stage <= 2; stage++) {
            for (int bytes = 1; bytes <= 16; bytes++) {
                for (int end = 0; end < 2; end++) {
                    Counted x = Hand.atStage(stage);
                    int[] content = new int[bytes];
                    content[bytes - 1] = 255;
                    Hand.send(x, end, 22, stage == 0 ? 0 : 16 - bytes, content);
                    CHECK.due("deliver", x.deliver(1 - end), bytes);
                    CHECK.due("item", Hand.oldestItem(x, 1 - end), Hand.record(22, content));
                    CHECK.due("not closed", x.look(1 - end, 6), NONE);
                }
            }
        }
        CHECK.due("no byte", Hand.pass(Hand.atStage(2), 0, 23), 0);
    }

    private static void answersIgnored() {
        CHECK.sentence("IGNORED when it was ignored");
        Counted x = new Counted(100);
        Hand.inject(x, 1, 12);
        for (int n = 11; n >= 0; n--) {
            CHECK.due("deliver", x.deliver(1), 100);
            CHECK.due("waiting", x.waiting(1), n);
        }
        CHECK.due("items", x.items(1), 0);
    }

    private static void answersAlerts() {
        CHECK.sentence("256 + a when there was the alert a.");
        Counted x = new Counted(100);
        x.inject(0, 22, 17, 0);
        CHECK.due("22", x.deliver(0), 278);
        CHECK.due("waiting", x.waiting(0), 0);
        Counted y = Hand.atStage(1);
        y.inject(0, 23, 9, 0);
        CHECK.due("20", y.deliver(0), 276);
        CHECK.due("waiting", y.waiting(0), 0);
        CHECK.due("50", Hand.pass(new Counted(100), 1, 21), 306);
        CHECK.due("47", Hand.pass(Hand.atStage(2), 1, 22, 24, 1, 2), 303);
        CHECK.due("10", Hand.pass(new Counted(100), 1, 0), 266);
    }

    private static void noSuchEnd() {
        CHECK.sentence("NONE when there is no such end or no record waits");
        Counted x = new Counted(100);
        x.inject(0, 20, 1, 1);
        x.inject(1, 20, 1, 1);
        for (int end : Hand.NO_ENDS) {
            CHECK.due("deliver(" + end + ")", x.deliver(end), NONE);
        }
        CHECK.due("waiting", x.waiting(0) + x.waiting(1), 2);
    }

    private static void noRecord() {
        CHECK.sentence("NONE when there is no such end or no record waits");
        Counted x = new Counted(100);
        CHECK.due("a new object", x.deliver(0), NONE);
        Hand.send(x, 0, 22, 0, 1, 0);
        CHECK.due("a record on the other wire", x.deliver(0), NONE);
        CHECK.due("a record", x.deliver(1), 2);
        CHECK.due("the only one is gone", x.deliver(1), NONE);
        x.inject(1, 22, 2, 0);
        x.lose(1, 0);
        CHECK.due("the only one was lost", x.deliver(1), NONE);
    }

    /** End 1 has closed its receiving by a record that said so, or by an alert. */
    private static Counted closedReceiving(boolean byAlert) {
        Counted x = Hand.atStage(2);
        Hand.pass(x, 0, 22, 9, 0);
        if (byAlert) {
            x.inject(1, 0, 0, 0);
            x.deliver(1);
        } else {
            Hand.forgeSealed(x, 1, 2, 1, 0, 3, 21);
            x.deliver(1);
        }
        return x;
    }

    private static void closed() {
        CHECK.sentence("CLOSED when the receiving is closed");
        for (boolean byAlert : new boolean[] {true, false}) {
            Counted x = closedReceiving(byAlert);
            Hand.send(x, 0, 23, 0, 5);
            x.inject(1, 20, 1, 1);
            CHECK.due("deliver", x.deliver(1), CLOSED);
            CHECK.due("deliver", x.deliver(1), CLOSED);
            CHECK.due("the other end", Hand.pass(x, 1, 23, 5), 1);
        }
        Counted y = Hand.atStage(2);
        y.seal(0, 21, 0);
        CHECK.due("a closed sending is not meant", Hand.pass(y, 1, 23, 5), 1);
    }

    private static void closedTakesOff() {
        CHECK.sentence("(the record is taken off all the same, and nothing else is done)");
        for (boolean byAlert : new boolean[] {true, false}) {
            Counted x = closedReceiving(byAlert);
            x.inject(1, 1, 1, 1);
            x.inject(1, 2, 2, 2);
            CHECK.due("closed", x.deliver(1), CLOSED);
            CHECK.due("record 0 is off", Hand.wire(x, 1), "[2: 2 2]");
            CHECK.due("closed", x.deliver(1), CLOSED);
            CHECK.due("the last is off", x.waiting(1), 0);
            CHECK.due("nothing left", x.deliver(1), NONE);
        }
    }

    /** Beside an object that lost the record, nothing tells the one that did not deliver it. */
    private static void closedDoesNothingElse() {
        CHECK.sentence("(the record is taken off all the same, and nothing else is done)");
        int[][] inner = {{5, 23}, {1, 9, 21}, {9, 22}, {24, 1, 1, 22}, {99}};
        for (boolean byAlert : new boolean[] {true, false}) {
            for (int[] bytes : inner) {
                Counted x = closedReceiving(byAlert);
                Counted y = closedReceiving(byAlert);
                for (Counted one : new Counted[] {x, y}) {
                    Hand.forgeSealed(one, 1, 2, byAlert ? 1 : 2, bytes);
                    Hand.send(one, 0, 23, 0, 5);
                }
                CHECK.due("closed", x.deliver(1), CLOSED);
                CHECK.yes("lose", y.lose(1, 0));
                CHECK.due("the same from here on", Hand.future(x), Hand.future(y));
            }
        }
    }

    /** At stage 2, end 1 has 16 items, and nothing is on its wire. */
    private static Counted sixteenItems() {
        Counted x = Hand.atStage(2);
        for (int i = 0; i < 16; i++) {
            CHECK.due("deliver", Hand.pass(x, 0, 23, i), 1);
        }
        return x;
    }

    private static void fullAt16() {
        CHECK.sentence("FULL when 16 items wait.");
        Counted x = sixteenItems();
        Hand.send(x, 0, 23, 0, 99);
        String before = Hand.all(x);
        CHECK.due("16 items", x.deliver(1), FULL);
        CHECK.due("the record waits, nothing changed", Hand.all(x), before);
        Hand.send(x, 1, 23, 0, 98);
        CHECK.due("the other end", x.deliver(0), 1);
        x.take(1);
        CHECK.due("15 items", x.deliver(1), 1);
    }

    private static void fullForAnyRecord() {
        CHECK.sentence("FULL when 16 items wait.");
        Counted x = sixteenItems();
        x.inject(1, 23, 0, 0);
        CHECK.due("what would give an alert", x.deliver(1), FULL);
        CHECK.due("waits", x.waiting(1), 1);
        CHECK.due("not closed", x.look(1, 6), NONE);
        x.take(1);
        CHECK.due("then", x.deliver(1), 276);
        Counted y = new Counted(100);
        for (int i = 0; i < 16; i++) {
            Hand.pass(y, 0, 22, 1, 0);
        }
        y.inject(1, 20, 1, 1);
        CHECK.due("what would be ignored", y.deliver(1), FULL);
        CHECK.due("waits", y.waiting(1), 1);
        y.take(1);
        CHECK.due("then", y.deliver(1), SealedRecords.IGNORED);
    }

    private static void fullThenTaken() {
        CHECK.sentence("FULL when 16 items wait.");
        Counted x = sixteenItems();
        for (int i = 16; i < 24; i++) {
            Hand.send(x, 0, 23, 0, i);
            CHECK.due("full", x.deliver(1), FULL);
            CHECK.due("the oldest", Hand.oldestItem(x, 1), "23: " + (i - 16));
            x.take(1);
            CHECK.due("room", x.deliver(1), 1);
            CHECK.due("items", x.items(1), 16);
        }
    }
}
