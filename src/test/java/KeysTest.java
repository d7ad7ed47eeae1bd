/** Promises 1 (a new object), 2 (secret), 3 (key) and 4 (advance). */
public final class KeysTest {
    private static final Check CHECK = new Check();
    private static final int BAD = SealedRecords.BAD;
    private static final int CLOSED = SealedRecords.CLOSED;
    private static final int NONE = SealedRecords.NONE;

    public static void main(String[] args) {
        newObject();
        newObjectsAreApart();
        secretChangesTheChain();
        secretGrowsTheStage();
        secretOfNoEnd();
        secretAtStage2();
        secretLeavesTheSides();
        keySetsStageSecretAndCount();
        keyLeavesTheRest();
        keyAnswersTheStage();
        keyOfNoEnd();
        keyOfAClosedSide();
        keyOfTheStageThatIs();
        keyWithAnOpenMessage();
        keyOfTheSendingSideWithAnOpenMessage();
        keyWithAnOpenMessageAndAnotherRefusal();
        keyAfterTheMessageWasCompleted();
        advanceChangesTheSecret();
        advanceSetsTheCountBack();
        advanceLeavesTheRest();
        advancePaysWhatIsOwed();
        advanceThatOwesNothing();
        advanceOfNoEnd();
        advanceBelowStage2();
        advanceOfAClosedSide();
        CHECK.finish();
    }

    private static void newObject() {
        CHECK.sentence("Two ends as said for the beginning, and nothing on the wires.");
        for (int limit : new int[] {1, 1000, 0, -1, 1001, Integer.MIN_VALUE, Integer.MAX_VALUE}) {
            Counted x = new Counted(limit);
            for (int end = 0; end < 2; end++) {
                CHECK.due("looks", Hand.looks(x, end), "0 0 0 0 0 0 -1 0 0 0");
                CHECK.due("waiting", x.waiting(end), 0);
                CHECK.due("record 0", x.wire(end, 0, 0), NONE);
                CHECK.due("items", x.items(end), 0);
                CHECK.due("item", x.item(end, -2), NONE);
                CHECK.due("deliver", x.deliver(end), NONE);
            }
        }
    }

    private static void newObjectsAreApart() {
        CHECK.sentence("Two ends as said for the beginning, and nothing on the wires.");
        Counted x = new Counted(100);
        Hand.pass(x, 0, 22, 9);
        Hand.send(x, 0, 21, 0, 1, 2);
        x.secret(0, 1);
        x.write(1, 2);
        Counted y = new Counted(100);
        CHECK.due("a new one beside a used one", Hand.future(y), Hand.future(new Counted(100)));
    }

    private static void secretChangesTheChain() {
        CHECK.sentence("The chain of the end becomes MIX(MIX(chain, 3), s)");
        for (long s : new long[] {0, 3, -1, Long.MIN_VALUE, Long.MAX_VALUE}) {
            for (int end = 0; end < 2; end++) {
                long chain = Formulas.mix(Formulas.mix(0, 3), s);
                Hand.sealsWith(CHECK, "one secret", Hand.keyed(100, s), end, Formulas.mix(chain, 4 + end));
                chain = Formulas.mix(Formulas.mix(chain, 3), -s);
                Hand.sealsWith(CHECK, "two secrets", Hand.keyed(100, s, -s), end, Formulas.mix(chain, 4 + end));
            }
        }
    }

    private static void secretGrowsTheStage() {
        CHECK.sentence("and its stage grows by 1. Answers true");
        Counted x = new Counted(100);
        CHECK.yes("the first secret", x.secret(1, Long.MIN_VALUE));
        CHECK.due("stage", x.look(1, 0), 1);
        CHECK.yes("the second secret", x.secret(1, 0));
        CHECK.due("stage", x.look(1, 0), 2);
        CHECK.due("the other end", x.look(0, 0), 0);
    }

    private static void secretOfNoEnd() {
        CHECK.sentence("false when there is no such end or the chain's stage is 2.");
        Counted x = new Counted(100);
        for (int end : Hand.NO_ENDS) {
            CHECK.no("secret(" + end + ")", x.secret(end, 7));
        }
        CHECK.due("stages", x.look(0, 0) + x.look(1, 0), 0);
    }

    private static void secretAtStage2() {
        CHECK.sentence("false when there is no such end or the chain's stage is 2.");
        for (int end = 0; end < 2; end++) {
            Counted x = new Counted(100);
            x.secret(end, 7);
            x.secret(end, 8);
            for (long s : new long[] {9, 0, -1}) {
                CHECK.no("a third secret", x.secret(end, s));
                CHECK.due("stage", x.look(end, 0), 2);
            }
            x.key(end, true);
            Hand.sealsWith(CHECK, "the chain stayed", x, end, Formulas.sendingSecret(end, 7, 8));
            CHECK.yes("the other end's first", x.secret(1 - end, 7));
        }
    }

    private static void secretLeavesTheSides() {
        CHECK.sentence("The chain of the end becomes MIX(MIX(chain, 3), s)");
        Counted x = Hand.atStage(1);
        x.seal(0, 22, 0);
        x.secret(0, 8);
        CHECK.due("only the chain's stage", Hand.looks(x, 0), "2 1 1 0 1 0 -1 0 0 0");
        x.seal(0, 22, 0);
        int[] due = Formulas.payload(Formulas.sendingSecret(0, 7), 1, 22);
        CHECK.due("sealed with the old secret", Hand.record(x, 1, 1), Hand.record(23, due));
    }

    private static void keySetsStageSecretAndCount() {
        CHECK.sentence("The sending side of the end, or its receiving side, gets the chain's stage and the secret that the chain gives it, and the count 0.");
        Counted x = Hand.keyed(3, 7);
        for (int i = 0; i < 3; i++) {
            CHECK.due("a message", Hand.pass(x, 0, 22, 5, 0), 2);
        }
        CHECK.due("counts", x.look(0, 2) + x.look(1, 5), 6);
        x.secret(0, 8);
        x.secret(1, 8);
        x.key(0, true);
        CHECK.due("only the sending side", Hand.looks(x, 0), "2 2 0 0 1 0 -1 0 0 0");
        x.key(1, false);
        CHECK.due("only the receiving side", Hand.looks(x, 1), "2 1 0 0 2 0 -1 0 0 0");
        Hand.sealsWith(CHECK, "the new secret", x, 0, Formulas.sendingSecret(0, 7, 8));
        CHECK.due("received with the new secret", x.deliver(1), 2);
    }

    private static void keyLeavesTheRest() {
        CHECK.sentence("gets the chain's stage and the secret that the chain gives it, and the count 0.");
        Counted x = new Counted(100);
        for (int end = 0; end < 2; end++) {
            x.secret(end, 7);
            x.secret(end, 8);
            x.key(end, end == 0);
        }
        Hand.pass(x, 0, 22, 24, 1, 1);
        x.write(1, 5);
        Hand.send(x, 0, 23, 0, 6);
        String wire = Hand.wire(x, 1);
        CHECK.due("key", x.key(1, true), 2);
        CHECK.due("what is owed and the draft stay", Hand.looks(x, 1), "2 2 0 0 2 0 -1 0 1 1");
        CHECK.due("items and wire stay", Hand.oldestItem(x, 1) + Hand.wire(x, 1), "22: 24 1 1" + wire);
        CHECK.due("the draft is sealed with the new secret", x.seal(1, 23, 0), 10);
        int[] due = Formulas.payload(Formulas.sendingSecret(1, 7, 8), 0, 5, 23);
        CHECK.due("record", Hand.record(x, 0, 0), Hand.record(23, due));
    }

    private static void keyAnswersTheStage() {
        CHECK.sentence("Answers the stage.");
        for (int end = 0; end < 2; end++) {
            Counted x = new Counted(100);
            x.secret(end, 7);
            CHECK.due("to stage 1", x.key(end, true), 1);
            CHECK.due("to stage 1", x.key(end, false), 1);
            x.secret(end, 8);
            CHECK.due("to stage 2", x.key(end, false), 2);
            CHECK.due("to stage 2", x.key(end, true), 2);
            Counted y = new Counted(100);
            y.secret(end, 7);
            y.secret(end, 8);
            CHECK.due("from 0 to 2", y.key(end, false), 2);
            CHECK.due("from 0 to 2", y.key(end, true), 2);
            Hand.sealsWith(CHECK, "from 0 to 2", y, end, Formulas.sendingSecret(end, 7, 8));
        }
    }

    private static void keyOfNoEnd() {
        CHECK.sentence("NONE when there is no such end");
        Counted x = new Counted(100);
        for (int end : Hand.NO_ENDS) {
            CHECK.due("key(" + end + ", true)", x.key(end, true), NONE);
            CHECK.due("key(" + end + ", false)", x.key(end, false), NONE);
        }
    }

    private static void keyOfAClosedSide() {
        CHECK.sentence("CLOSED when that side is closed");
        Counted x = Hand.atStage(1);
        CHECK.due("closing", Hand.pass(x, 0, 21, 1, 2), 2);
        x.secret(0, 8);
        x.secret(1, 8);
        CHECK.due("the closed sending side", x.key(0, true), CLOSED);
        CHECK.due("the closed receiving side", x.key(1, false), CLOSED);
        CHECK.due("stages stay", x.look(0, 1) + x.look(1, 4), 2);
        CHECK.due("the receiving side of that end", x.key(0, false), 2);
        CHECK.due("the sending side of that end", x.key(1, true), 2);
        Counted y = Hand.atStage(1);
        y.inject(1, 0, 0, 0);
        CHECK.due("closed by an alert", y.deliver(1), 266);
        y.secret(1, 8);
        CHECK.due("the closed receiving side", y.key(1, false), CLOSED);
        CHECK.due("the sending side of that end", y.key(1, true), 2);
    }

    private static void keyOfTheStageThatIs() {
        CHECK.sentence("BAD when the side's stage is the chain's already.");
        for (int stage = 0; stage <= 2; stage++) {
            Counted x = Hand.atStage(stage);
            Hand.pass(x, 0, 22, 5, 0);
            String before = Hand.looks(x, 0) + Hand.looks(x, 1);
            for (int end = 0; end < 2; end++) {
                CHECK.due("key again", x.key(end, true), BAD);
                CHECK.due("key again", x.key(end, false), BAD);
            }
            CHECK.due("counts stay", Hand.looks(x, 0) + Hand.looks(x, 1), before);
        }
    }

    private static void keyWithAnOpenMessage() {
        CHECK.sentence("For the receiving side, when a message is OPEN (and none of the others holds): there is the ALERT 10, the side keeps stage, secret and count, and the answer is 256 + 10.");
        Counted x = Hand.atStage(1);
        CHECK.due("a kind alone", Hand.pass(x, 0, 22, 9), 1);
        x.secret(1, 8);
        CHECK.due("key", x.key(1, false), 266);
        CHECK.due("closed, with stage and count kept", Hand.looks(x, 1), "2 1 0 0 1 1 266 1 0 0");
        CHECK.due("key once more", x.key(1, false), CLOSED);
        CHECK.due("deliver", Hand.pass(x, 0, 22, 0), CLOSED);
        Counted y = new Counted(100);
        CHECK.due("all but the last byte, at stage 0", Hand.pass(y, 0, 22, 9, 3, 1, 1), 4);
        y.secret(1, 7);
        y.secret(1, 8);
        CHECK.due("key", y.key(1, false), 266);
        CHECK.due("closed at stage 0", Hand.looks(y, 1), "2 0 0 0 0 0 266 1 0 0");
        CHECK.due("the item stays", Hand.oldestItem(y, 1), "22: 9 3 1 1");
    }

    private static void keyOfTheSendingSideWithAnOpenMessage() {
        CHECK.sentence("For the receiving side, when a message is OPEN");
        Counted x = Hand.atStage(1);
        Hand.pass(x, 0, 22, 9);
        x.secret(1, 8);
        x.secret(0, 8);
        CHECK.due("the sending side", x.key(1, true), 2);
        CHECK.due("no alert", x.look(1, 6), NONE);
        CHECK.due("the sender's sides", x.key(0, true) + x.key(0, false), 4);
        CHECK.due("no alert", x.look(0, 6), NONE);
    }

    private static void keyWithAnOpenMessageAndAnotherRefusal() {
        CHECK.sentence("(and none of the others holds)");
        for (int stage = 0; stage <= 2; stage++) {
            Counted x = Hand.atStage(stage);
            Hand.pass(x, 0, 22, 9);
            CHECK.due("no new stage", x.key(1, false), BAD);
            CHECK.due("no alert by that", x.look(1, 6), NONE);
            CHECK.due("and it goes on", Hand.pass(x, 0, 22, 0), 1);
        }
        Counted y = Hand.atStage(1);
        Hand.pass(y, 0, 22, 9);
        y.inject(1, 23, 0, 0);
        CHECK.due("an alert", y.deliver(1), 276);
        y.secret(1, 8);
        CHECK.due("closed", y.key(1, false), CLOSED);
        CHECK.due("the reason stays", y.look(1, 6), 276);
    }

    private static void keyAfterTheMessageWasCompleted() {
        CHECK.sentence("when a message is OPEN");
        Counted x = Hand.atStage(1);
        Hand.pass(x, 0, 22, 9);
        Hand.pass(x, 0, 22, 1, 4);
        x.secret(1, 8);
        CHECK.due("key", x.key(1, false), 2);
    }

    private static void advanceChangesTheSecret() {
        CHECK.sentence("The secret of the end's sending side becomes MIX(secret, 6)");
        for (int end = 0; end < 2; end++) {
            Counted x = Hand.atStage(2);
            long secret = Formulas.sendingSecret(end, 7, 8);
            for (int step = 0; step < 3; step++) {
                CHECK.yes("advance", x.advance(end));
                secret = Formulas.mix(secret, 6);
                Hand.sealsWith(CHECK, "advanced", x, end, secret);
            }
            CHECK.due("its receiving secret stays", Hand.pass(x, 1 - end, 23, 5), 1);
        }
    }

    private static void advanceSetsTheCountBack() {
        CHECK.sentence("its count 0");
        for (int end = 0; end < 2; end++) {
            Counted x = Hand.keyed(2, 7, 8);
            Hand.pass(x, 1 - end, 23);
            Hand.send(x, 1 - end, 23, 0);
            x.seal(end, 23, 0);
            x.seal(end, 23, 0);
            CHECK.due("the count is the limit", x.seal(end, 23, 0), SealedRecords.EXHAUSTED);
            CHECK.yes("advance", x.advance(end));
            CHECK.due("only the sending count", Hand.looks(x, end), "2 2 0 0 2 1 -1 0 0 0");
            CHECK.due("the other end's stay", Hand.looks(x, 1 - end), "2 2 2 0 2 0 -1 0 0 0");
            CHECK.due("seal again", x.seal(end, 23, 0), 9);
        }
    }

    private static void advanceLeavesTheRest() {
        CHECK.sentence("The secret of the end's sending side becomes MIX(secret, 6), its count 0, and the end owes no change any more.");
        Counted x = Hand.atStage(2);
        Hand.pass(x, 1, 22, 9);
        Hand.send(x, 1, 22, 0, 0);
        Hand.send(x, 0, 23, 0, 6);
        Hand.write(x, 0, 5, 6);
        String wires = Hand.wire(x, 0) + Hand.wire(x, 1);
        x.advance(0);
        CHECK.due("draft, message and receiving side stay", Hand.looks(x, 0), "2 2 0 0 2 1 -1 1 0 2");
        CHECK.due("the wires stay", Hand.wire(x, 0) + Hand.wire(x, 1), wires);
        CHECK.due("the message goes on", x.deliver(0), 1);
        CHECK.due("what was sealed before is received", x.deliver(1), 1);
    }

    private static void advancePaysWhatIsOwed() {
        CHECK.sentence("and the end owes no change any more.");
        Counted x = Hand.atStage(2);
        CHECK.due("a key change that asks for another", Hand.pass(x, 0, 22, 24, 1, 1), 3);
        CHECK.due("owes", x.look(1, 8), 1);
        CHECK.yes("advance of the other end", x.advance(0));
        CHECK.due("still owes", x.look(1, 8), 1);
        CHECK.yes("advance", x.advance(1));
        CHECK.due("owes no more", x.look(1, 8), 0);
        CHECK.due("another that asks", Hand.pass(x, 0, 22, 24, 1, 1), 3);
        CHECK.due("owes again", x.look(1, 8), 1);
    }

    private static void advanceThatOwesNothing() {
        CHECK.sentence("Answers true; false when there is no such end, the side's stage is not 2, or the side is closed.");
        Counted x = Hand.atStage(2);
        CHECK.yes("nothing is owed", x.advance(0));
        CHECK.yes("once more", x.advance(0));
        CHECK.due("owes", x.look(0, 8), 0);
        Counted y = Hand.atStage(2);
        y.inject(0, 0, 0, 0);
        y.deliver(0);
        CHECK.yes("the receiving is closed", y.advance(0));
    }

    private static void advanceOfNoEnd() {
        CHECK.sentence("false when there is no such end, the side's stage is not 2, or the side is closed.");
        Counted x = Hand.atStage(2);
        for (int end : Hand.NO_ENDS) {
            CHECK.no("advance(" + end + ")", x.advance(end));
        }
    }

    private static void advanceBelowStage2() {
        CHECK.sentence("false when there is no such end, the side's stage is not 2, or the side is closed.");
        CHECK.no("stage 0", new Counted(100).advance(0));
        Counted x = Hand.atStage(1);
        CHECK.no("stage 1", x.advance(1));
        x.secret(1, 8);
        CHECK.no("only the chain is at stage 2", x.advance(1));
        x.key(1, false);
        CHECK.no("only the receiving side is at stage 2", x.advance(1));
        x.key(1, true);
        CHECK.yes("stage 2", x.advance(1));
    }

    private static void advanceOfAClosedSide() {
        CHECK.sentence("false when there is no such end, the side's stage is not 2, or the side is closed.");
        Counted x = Hand.atStage(2);
        Hand.pass(x, 0, 22, 24, 1, 1);
        x.seal(1, 21, 0);
        CHECK.no("closed", x.advance(1));
        CHECK.due("count stays, and what is owed", Hand.looks(x, 1), "2 2 1 1 2 0 -1 0 1 0");
        CHECK.yes("the other end", x.advance(0));
    }
}
