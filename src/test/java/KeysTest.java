/** Promises 1 (a new object), 2 (secret), 3 (key) and 4 (advance). */
public final class KeysTest {
    private static final Check CHECK = new Check();

    public static void main(String[] args) {
        newObject();
        limits();
        secretGrowsTheStage();
        secretsMakeTheChain();
        keyRefuses();
        keySkipsAStage();
        keySetsTheCountBack();
        keyGivesEachSideItsSecret();
        keyWithAnOpenMessage();
        keyOfAClosedSide();
        advanceRefuses();
        advanceChangesTheSecret();
        advancePaysWhatIsOwed();
        CHECK.finish();
    }

    private static void newObject() {
        SealedRecords x = new SealedRecords(1);
        for (int end = 0; end < 2; end++) {
            CHECK.due("new: looks", Hand.looks(x, end), "0 0 0 0 0 0 -1 0 0 0");
            CHECK.due("new: waiting", x.waiting(end), 0);
            CHECK.due("new: items", x.items(end), 0);
            CHECK.due("new: deliver", x.deliver(end), SealedRecords.NONE);
        }
    }

    private static void limits() {
        int[] given = {1, 2, 100, 0, -1, 1001, Integer.MIN_VALUE, Integer.MAX_VALUE};
        int[] due = {1, 2, 100, 100, 100, 100, 100, 100};
        for (int i = 0; i < given.length; i++) {
            CHECK.due("records under the limit " + given[i], sealUntilRefused(new SealedRecords(given[i]), 200), due[i]);
        }
        // 512 calls cannot bring a count to 1000, so a number above 100 shows that 1000 was kept
        CHECK.due("records under the limit 1000", sealUntilRefused(new SealedRecords(1000), 200), 200);
        CHECK.due("records under the limit 101", sealUntilRefused(new SealedRecords(101), 200), 101);
    }

    private static int sealUntilRefused(SealedRecords x, int most) {
        int sealed = 0;
        while (sealed < most && x.seal(0, 22, 0) == 0) {
            sealed++;
            x.lose(1, 0);
        }
        if (sealed < most) {
            CHECK.due("seal at the limit", x.seal(0, 22, 0), SealedRecords.EXHAUSTED);
        }
        CHECK.due("count", x.look(0, 2), sealed);
        return sealed;
    }

    private static void secretGrowsTheStage() {
        SealedRecords x = new SealedRecords(100);
        for (int end : Hand.NO_ENDS) {
            CHECK.no("secret(" + end + ")", x.secret(end, 7));
        }
        CHECK.yes("first secret", x.secret(1, Long.MIN_VALUE));
        CHECK.due("stages after one", Hand.looks(x, 1), "1 0 0 0 0 0 -1 0 0 0");
        CHECK.due("the other end", x.look(0, 0), 0);
        CHECK.yes("second secret", x.secret(1, 0));
        CHECK.due("stage after two", x.look(1, 0), 2);
        CHECK.no("third secret", x.secret(1, 5));
        CHECK.due("stage after three", x.look(1, 0), 2);
        CHECK.due("the other end", Hand.looks(x, 0), "0 0 0 0 0 0 -1 0 0 0");
    }

    private static void secretsMakeTheChain() {
        long[] some = {0, 1, -1, 7, Long.MAX_VALUE, Long.MIN_VALUE, 1L << 32, 123456789012345L};
        for (long s : some) {
            sealsWith("one secret " + s, Hand.keyed(100, s), 0, Formulas.sendingSecret(0, s));
            for (long r : some) {
                SealedRecords x = Hand.keyed(100, s, r);
                x.secret(0, 99);
                sealsWith("secrets " + s + ", " + r, x, 0, Formulas.sendingSecret(0, s, r));
            }
        }
    }

    /** The next record of the end is sealed with this secret, as the first one of it. */
    private static void sealsWith(String what, SealedRecords x, int end, long secret) {
        int k = x.waiting(1 - end);
        CHECK.due(what, Hand.send(x, end, 23, 1, 65, 0), 12);
        CHECK.due(what, Hand.record(x, 1 - end, k), Hand.record(23, Formulas.payload(secret, 0, 65, 0, 23, 0)));
    }

    private static void keyRefuses() {
        SealedRecords x = new SealedRecords(100);
        for (int end : Hand.NO_ENDS) {
            CHECK.due("key(" + end + ")", x.key(end, true), SealedRecords.NONE);
            CHECK.due("key(" + end + ")", x.key(end, false), SealedRecords.NONE);
        }
        CHECK.due("key at stage 0", x.key(0, true), SealedRecords.BAD);
        CHECK.due("key at stage 0", x.key(0, false), SealedRecords.BAD);
        x.secret(0, 7);
        CHECK.due("key", x.key(0, true), 1);
        CHECK.due("key again", x.key(0, true), SealedRecords.BAD);
        CHECK.due("only the sending side", Hand.looks(x, 0), "1 1 0 0 0 0 -1 0 0 0");
        CHECK.due("key", x.key(0, false), 1);
        CHECK.due("key again", x.key(0, false), SealedRecords.BAD);
        CHECK.due("the other end", x.key(1, true), SealedRecords.BAD);
    }

    private static void keySkipsAStage() {
        SealedRecords x = new SealedRecords(100);
        x.secret(0, 7);
        x.secret(0, 8);
        CHECK.due("key from 0 to 2", x.key(0, false), 2);
        CHECK.due("only the receiving side", Hand.looks(x, 0), "2 0 0 0 2 0 -1 0 0 0");
        CHECK.due("key from 0 to 2", x.key(0, true), 2);
        sealsWith("key from 0 to 2", x, 0, Formulas.sendingSecret(0, 7, 8));
    }

    private static void keySetsTheCountBack() {
        SealedRecords x = Hand.keyed(3, 7);
        for (int i = 0; i < 3; i++) {
            CHECK.due("a message", Hand.pass(x, 0, 22, 5, 0), 2);
        }
        CHECK.due("a fourth one", x.seal(0, 22, 0), SealedRecords.EXHAUSTED);
        CHECK.due("receiving count", x.look(1, 5), 3);
        CHECK.due("key again", x.key(0, true), SealedRecords.BAD);
        CHECK.due("sending count", x.look(0, 2), 3);
        x.secret(0, 8);
        x.secret(1, 8);
        CHECK.due("key", x.key(0, true), 2);
        CHECK.due("sending count", x.look(0, 2), 0);
        CHECK.due("key", x.key(1, false), 2);
        CHECK.due("receiving count", x.look(1, 5), 0);
        CHECK.due("a message", Hand.pass(x, 0, 22, 5, 0), 2);
        CHECK.due("counts", x.look(0, 2) + x.look(1, 5), 2);
    }

    private static void keyGivesEachSideItsSecret() {
        for (int stage = 1; stage <= 2; stage++) {
            long[] secrets = stage == 1 ? new long[] {41} : new long[] {41, 42};
            for (int end = 0; end < 2; end++) {
                SealedRecords x = Hand.keyed(100, secrets);
                sealsWith("sending secret", x, end, Formulas.sendingSecret(end, secrets));
                int[] sealed = Formulas.payload(Formulas.receivingSecret(end, secrets), 0, 9, 0, 22);
                Hand.forge(x, end, 23, sealed);
                CHECK.due("receiving secret", x.deliver(end), 2);
                CHECK.due("what was received", Hand.oldestItem(x, end), "22: 9 0");
            }
        }
    }

    private static void keyWithAnOpenMessage() {
        SealedRecords x = Hand.keyed(100, 7);
        CHECK.due("half a message", Hand.pass(x, 0, 22, 9), 1);
        CHECK.due("key, but no new stage", x.key(1, false), SealedRecords.BAD);
        CHECK.due("no alert by that", x.look(1, 6), SealedRecords.NONE);
        x.secret(1, 8);
        CHECK.due("key of the sending side", x.key(1, true), 2);
        CHECK.due("no alert by that", x.look(1, 6), SealedRecords.NONE);
        CHECK.due("key of the receiving side", x.key(1, false), 266);
        CHECK.due("closed, with stage and count kept", Hand.looks(x, 1), "2 2 0 0 1 1 266 1 0 0");
        CHECK.due("key once more", x.key(1, false), SealedRecords.CLOSED);

        SealedRecords y = new SealedRecords(100);
        CHECK.due("half a message at stage 0", Hand.pass(y, 0, 22, 9, 3, 1, 1), 4);
        y.secret(1, 8);
        CHECK.due("key", y.key(1, false), 266);
        CHECK.due("closed at stage 0", Hand.looks(y, 1), "1 0 0 0 0 0 266 1 0 0");
    }

    private static void keyOfAClosedSide() {
        SealedRecords x = Hand.keyed(100, 7);
        CHECK.due("closing", Hand.pass(x, 0, 21, 1, 2), 2);
        CHECK.due("closed comes before BAD", x.key(0, true), SealedRecords.CLOSED);
        CHECK.due("closed comes before BAD", x.key(1, false), SealedRecords.CLOSED);
        CHECK.due("the other side is not closed", x.key(0, false), SealedRecords.BAD);
        CHECK.due("the other side is not closed", x.key(1, true), SealedRecords.BAD);
        CHECK.yes("secret of an end with a closed side", x.secret(0, 8));
        CHECK.due("key", x.key(0, true), SealedRecords.CLOSED);
        CHECK.due("stage stays", x.look(0, 1), 1);
        CHECK.due("key of the other side", x.key(0, false), 2);
    }

    private static void advanceRefuses() {
        SealedRecords x = new SealedRecords(100);
        for (int end : Hand.NO_ENDS) {
            CHECK.no("advance(" + end + ")", x.advance(end));
        }
        CHECK.no("advance at stage 0", x.advance(0));
        x.secret(0, 7);
        x.secret(0, 8);
        CHECK.no("advance when only the chain is at stage 2", x.advance(0));
        CHECK.due("key", x.key(0, false), 2);
        CHECK.no("advance when only the receiving side is at stage 2", x.advance(0));
        CHECK.no("advance at stage 1", Hand.atStage(1).advance(1));
        SealedRecords y = Hand.atStage(2);
        y.seal(1, 21, 0);
        String before = Hand.all(y);
        CHECK.no("advance when closed", y.advance(1));
        CHECK.due("nothing changed", Hand.all(y), before);
        CHECK.yes("the other end is not closed", y.advance(0));
    }

    private static void advanceChangesTheSecret() {
        for (int end = 0; end < 2; end++) {
            SealedRecords x = Hand.keyed(2, 7, 8);
            x.seal(end, 23, 0);
            x.seal(end, 23, 0);
            CHECK.due("count is the limit", x.seal(end, 23, 0), SealedRecords.EXHAUSTED);
            long secret = Formulas.sendingSecret(end, 7, 8);
            for (int step = 0; step < 3; step++) {
                CHECK.yes("advance", x.advance(end));
                CHECK.due("count", x.look(end, 2), 0);
                secret = Formulas.mix(secret, 6);
                sealsWith("advanced", x, end, secret);
            }
            CHECK.due("the other side", x.look(end, 4), 2);
            CHECK.due("the other end", x.look(1 - end, 2), 0);
        }
    }

    private static void advancePaysWhatIsOwed() {
        SealedRecords x = Hand.atStage(2);
        CHECK.due("a key change that asks for another", Hand.pass(x, 0, 22, 24, 1, 1), 3);
        x.advance(0);
        CHECK.due("owed", x.look(1, 8), 1);
        CHECK.due("not by the asking end", x.look(0, 8), 0);
        CHECK.due("another one that does not ask", Hand.pass(x, 0, 22, 24, 1, 0), 3);
        CHECK.due("still owed", x.look(1, 8), 1);
        CHECK.yes("advance", x.advance(1));
        CHECK.due("owed no more", x.look(1, 8), 0);
    }
}
