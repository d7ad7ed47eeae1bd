/** Promises 5 (write) and 6 (seal). */
public final class SealTest {
    private static final Check CHECK = new Check();
    private static final int BAD = SealedRecords.BAD;
    private static final int CLOSED = SealedRecords.CLOSED;
    private static final int EXHAUSTED = SealedRecords.EXHAUSTED;
    private static final int FULL = SealedRecords.FULL;
    private static final int NONE = SealedRecords.NONE;

    public static void main(String[] args) {
        writeAtTheEnd();
        writeToNoEnd();
        writeNoByte();
        writeToAFullDraft();
        writeWhenClosed();
        sealPutsTheNewest();
        sealEmptiesTheDraft();
        sealCounts();
        sealAnswersTheBytes();
        sealOfClosingCloses();
        sealOfOtherTypesDoesNotClose();
        sealRefusedDoesNotClose();
        sealOfNoEnd();
        sealWhenClosed();
        sealNoType();
        sealPaddingBelow0();
        sealPaddingAtStage0();
        sealMoreThan16Together();
        sealAtTheLimit();
        sealAtTheLimitOfOneSecret();
        sealOntoAFullWire();
        CHECK.finish();
    }

    private static void writeAtTheEnd() {
        CHECK.sentence("Puts a byte at the end of the end's draft. Answers true");
        Counted x = new Counted(100);
        for (int b : new int[] {0, 255, 7}) {
            CHECK.yes("write", x.write(1, b));
        }
        CHECK.yes("to the other draft", x.write(0, 8));
        CHECK.due("draft", x.look(1, 9), 3);
        x.seal(1, 22, 0);
        CHECK.due("in their order", Hand.record(x, 0, 0), "22: 0 255 7");
    }

    private static void writeToNoEnd() {
        CHECK.sentence("false when there is no such end, b is not 0 .. 255, or the draft has 16 bytes.");
        Counted x = new Counted(100);
        for (int end : Hand.NO_ENDS) {
            CHECK.no("write(" + end + ", 1)", x.write(end, 1));
        }
        CHECK.due("drafts", x.look(0, 9) + x.look(1, 9), 0);
    }

    private static void writeNoByte() {
        CHECK.sentence("false when there is no such end, b is not 0 .. 255, or the draft has 16 bytes.");
        Counted x = new Counted(100);
        for (int b : Hand.NO_BYTES) {
            CHECK.no("write(0, " + b + ")", x.write(0, b));
        }
        CHECK.due("draft", x.look(0, 9), 0);
        CHECK.yes("0", x.write(0, 0));
        CHECK.yes("255", x.write(0, 255));
    }

    private static void writeToAFullDraft() {
        CHECK.sentence("false when there is no such end, b is not 0 .. 255, or the draft has 16 bytes.");
        for (int stage = 0; stage <= 2; stage++) {
            Counted x = Hand.atStage(stage);
            for (int i = 0; i < 16; i++) {
                CHECK.yes("byte " + i, x.write(0, 100 + i));
            }
            CHECK.no("a seventeenth", x.write(0, 1));
            CHECK.no("and again", x.write(0, 2));
            CHECK.due("draft", x.look(0, 9), 16);
            CHECK.yes("to the other draft", x.write(1, 1));
            CHECK.due("seal", x.seal(0, 22, 0), stage == 0 ? 16 : 25);
            CHECK.yes("once it is empty", x.write(0, 1));
        }
    }

    private static void writeWhenClosed() {
        CHECK.sentence("false when there is no such end, b is not 0 .. 255, or the draft has 16 bytes.");
        Counted x = new Counted(100);
        Hand.pass(x, 0, 21, 1, 2);
        CHECK.yes("the sending side is closed", x.write(0, 5));
        CHECK.yes("the receiving side is closed", x.write(1, 5));
        CHECK.due("drafts", x.look(0, 9) + x.look(1, 9), 2);
    }

    private static void sealPutsTheNewest() {
        CHECK.sentence("the record becomes the newest on the wire to the other end");
        for (int end = 0; end < 2; end++) {
            Counted x = new Counted(100);
            x.inject(1 - end, 9, 1, 9);
            x.inject(end, 8, 1, 8);
            Hand.send(x, end, 22, 0, 1);
            Hand.send(x, end, 23, 0, 2);
            CHECK.due("the wire to the other end", Hand.wire(x, 1 - end), "[9: 9][22: 1][23: 2]");
            CHECK.due("the own wire", Hand.wire(x, end), "[8: 8]");
        }
    }

    private static void sealEmptiesTheDraft() {
        CHECK.sentence("the draft empty");
        for (int stage = 0; stage <= 2; stage++) {
            Counted x = Hand.atStage(stage);
            x.write(1, 4);
            Hand.send(x, 0, 22, 0, 1, 2, 3);
            CHECK.due("draft", x.look(0, 9), 0);
            CHECK.due("the other draft", x.look(1, 9), 1);
            CHECK.due("an empty content next", x.seal(0, 22, 0), stage == 0 ? 0 : 9);
        }
    }

    private static void sealCounts() {
        CHECK.sentence("and the count grows by 1.");
        for (int stage = 0; stage <= 2; stage++) {
            Counted x = Hand.atStage(stage);
            for (int n = 1; n <= 3; n++) {
                x.seal(0, 22, 0);
                CHECK.due("count", x.look(0, 2), n);
            }
            CHECK.due("the receiving count of that end", x.look(0, 5), 0);
            CHECK.due("the counts of the other end", x.look(1, 2) + x.look(1, 5), 0);
        }
    }

    private static void sealAnswersTheBytes() {
        CHECK.sentence("Answers the number of bytes of the payload.");
        for (int bytes = 0; bytes <= 16; bytes++) {
            int[] content = new int[bytes];
            CHECK.due("stage 0", Hand.send(new Counted(100), 0, 22, 0, content), bytes);
            CHECK.due("stage 1", Hand.send(Hand.atStage(1), 0, 22, 0, content), bytes + 9);
            CHECK.due("stage 2", Hand.send(Hand.atStage(2), 0, 22, 16 - bytes, content), 25);
        }
    }

    private static void sealOfClosingCloses() {
        CHECK.sentence("When the type is 21, the sending side is CLOSED from then on.");
        for (int stage = 0; stage <= 2; stage++) {
            Counted x = Hand.atStage(stage);
            CHECK.due("whatever its content", Hand.send(x, 0, 21, 0), stage == 0 ? 0 : 9);
            CHECK.due("closed", x.look(0, 3), 1);
            CHECK.due("it is on the wire", x.waiting(1), 1);
            CHECK.due("count", x.look(0, 2), 1);
            CHECK.due("seal", x.seal(0, 22, 0), CLOSED);
            CHECK.due("its receiving is not closed", x.look(0, 6), NONE);
            CHECK.due("the other end is not closed", x.look(1, 3), 0);
            CHECK.due("the other end seals", x.seal(1, 22, 0), stage == 0 ? 0 : 9);
        }
        Counted y = new Counted(1);
        CHECK.due("as the last one before the limit", y.seal(0, 21, 0), 0);
        CHECK.due("closed", y.look(0, 3), 1);
    }

    private static void sealOfOtherTypesDoesNotClose() {
        CHECK.sentence("When the type is 21, the sending side is CLOSED from then on.");
        for (int stage = 0; stage <= 2; stage++) {
            for (int type = 0; type <= 255; type++) {
                Counted x = Hand.atStage(stage);
                Hand.send(x, 0, type, 0, 21, 21);
                CHECK.due("closed by type " + type, x.look(0, 3), type == 21 ? 1 : 0);
            }
        }
    }

    private static void sealRefusedDoesNotClose() {
        CHECK.sentence("When the type is 21, the sending side is CLOSED from then on.");
        Counted x = new Counted(1);
        CHECK.due("bad padding", x.seal(0, 21, 1), BAD);
        CHECK.due("closed", x.look(0, 3), 0);
        x.seal(0, 22, 0);
        CHECK.due("at the limit", x.seal(0, 21, 0), EXHAUSTED);
        CHECK.due("closed", x.look(0, 3), 0);
        Hand.inject(x, 0, 12);
        CHECK.due("a full wire", x.seal(1, 21, 0), FULL);
        CHECK.due("closed", x.look(1, 3), 0);
    }

    private static void sealOfNoEnd() {
        CHECK.sentence("NONE when there is no such end");
        Counted x = new Counted(100);
        for (int end : Hand.NO_ENDS) {
            CHECK.due("seal(" + end + ")", x.seal(end, 22, 0), NONE);
        }
        CHECK.due("waiting", x.waiting(0) + x.waiting(1), 0);
    }

    private static void sealWhenClosed() {
        CHECK.sentence("CLOSED when the side is closed");
        Counted x = Hand.atStage(2);
        x.seal(0, 21, 0);
        for (int type : new int[] {21, 22, 23, 0}) {
            CHECK.due("seal", x.seal(0, type, 0), CLOSED);
        }
        CHECK.due("waiting", x.waiting(1), 1);
        Counted y = Hand.atStage(2);
        y.inject(0, 0, 0, 0);
        y.deliver(0);
        CHECK.due("not by a closed receiving", y.seal(0, 22, 0), 9);
    }

    private static void sealNoType() {
        CHECK.sentence("BAD when type is not 0 .. 255");
        for (int stage = 0; stage <= 2; stage++) {
            Counted x = Hand.atStage(stage);
            for (int type : Hand.NO_BYTES) {
                CHECK.due("type " + type, x.seal(0, type, 0), BAD);
            }
            // the same lowest eight bits as 21
            CHECK.due("type 277", x.seal(0, 277, 0), BAD);
            CHECK.due("closed", x.look(0, 3), 0);
            CHECK.due("type 0", x.seal(0, 0, 0), stage == 0 ? 0 : 9);
            CHECK.due("type 255", x.seal(0, 255, 0), stage == 0 ? 0 : 9);
        }
    }

    private static void sealPaddingBelow0() {
        CHECK.sentence("padding is below 0");
        for (int stage = 0; stage <= 2; stage++) {
            for (int bytes : new int[] {0, 1, 16}) {
                Counted x = Hand.atStage(stage);
                Hand.write(x, 0, new int[bytes]);
                for (int padding : new int[] {-1, -2, -16, -17, Integer.MIN_VALUE, Integer.MIN_VALUE + 1}) {
                    CHECK.due("padding " + padding, x.seal(0, 22, padding), BAD);
                }
                CHECK.due("padding 0", x.seal(0, 22, 0), stage == 0 ? bytes : bytes + 9);
            }
        }
    }

    private static void sealPaddingAtStage0() {
        CHECK.sentence("or above 0 at stage 0");
        Counted x = new Counted(100);
        x.secret(0, 7);
        x.key(0, false);
        for (int padding : new int[] {1, 2, 15, 16, 17, Integer.MAX_VALUE}) {
            CHECK.due("padding " + padding, x.seal(0, 22, padding), BAD);
        }
        CHECK.due("padding 0", x.seal(0, 22, 0), 0);
        x.key(0, true);
        CHECK.due("padding 1 at stage 1", x.seal(0, 22, 1), 10);
    }

    private static void sealMoreThan16Together() {
        CHECK.sentence("or the draft's bytes and the padding are more than 16 together");
        for (int stage = 1; stage <= 2; stage++) {
            for (int bytes = 0; bytes <= 16; bytes++) {
                Counted x = Hand.atStage(stage);
                Hand.write(x, 0, new int[bytes]);
                CHECK.due("17 together", x.seal(0, 22, 17 - bytes), BAD);
                CHECK.due("33 together", x.seal(0, 22, 33 - bytes), BAD);
                // with the bytes of the draft these sums wrap
                CHECK.due("padding beyond all", x.seal(0, 22, Integer.MAX_VALUE), BAD);
                CHECK.due("padding beyond all", x.seal(0, 22, Integer.MAX_VALUE - bytes + 1), BAD);
                CHECK.due("draft", x.look(0, 9), bytes);
                CHECK.due("16 together", x.seal(0, 22, 16 - bytes), 25);
            }
        }
    }

    private static void sealAtTheLimit() {
        CHECK.sentence("EXHAUSTED when the count is the LIMIT");
        for (int stage = 0; stage <= 2; stage++) {
            for (int limit = 1; limit <= 3; limit++) {
                Counted x = Hand.keyed(limit, Hand.secrets(stage));
                for (int n = 0; n < limit; n++) {
                    CHECK.due("below the limit", x.seal(1, 22, 0), stage == 0 ? 0 : 9);
                }
                CHECK.due("at the limit", x.seal(1, 22, 0), EXHAUSTED);
                CHECK.due("and again", x.seal(1, 22, 0), EXHAUSTED);
                CHECK.due("count", x.look(1, 2), limit);
                CHECK.due("the other end", x.seal(0, 22, 0), stage == 0 ? 0 : 9);
            }
        }
    }

    private static void sealAtTheLimitOfOneSecret() {
        CHECK.sentence("EXHAUSTED when the count is the LIMIT");
        Counted x = new Counted(1);
        CHECK.due("stage 0", x.seal(0, 22, 0), 0);
        CHECK.due("at the limit", x.seal(0, 22, 0), EXHAUSTED);
        x.secret(0, 7);
        CHECK.due("a secret alone does not help", x.seal(0, 22, 0), EXHAUSTED);
        x.key(0, true);
        CHECK.due("stage 1", x.seal(0, 22, 0), 9);
        CHECK.due("at the limit", x.seal(0, 22, 0), EXHAUSTED);
        x.secret(0, 8);
        x.key(0, true);
        CHECK.due("stage 2", x.seal(0, 22, 0), 9);
        CHECK.due("at the limit", x.seal(0, 22, 0), EXHAUSTED);
        x.advance(0);
        CHECK.due("advanced", x.seal(0, 22, 0), 9);
        CHECK.due("at the limit", x.seal(0, 22, 0), EXHAUSTED);
    }

    private static void sealOntoAFullWire() {
        CHECK.sentence("FULL when 12 records wait on that wire.");
        for (int stage = 0; stage <= 2; stage++) {
            Counted x = Hand.atStage(stage);
            Hand.inject(x, 1, 11);
            CHECK.due("the twelfth", x.seal(0, 22, 0), stage == 0 ? 0 : 9);
            x.write(0, 5);
            CHECK.due("a thirteenth", x.seal(0, 22, 0), FULL);
            CHECK.due("count and draft stay", x.look(0, 2) + x.look(0, 9), 2);
            CHECK.due("the other wire", x.seal(1, 22, 0), stage == 0 ? 0 : 9);
            x.lose(1, 0);
            CHECK.due("room again", x.seal(0, 22, 0), stage == 0 ? 1 : 10);
        }
    }
}
