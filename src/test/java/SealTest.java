/** Promises 5 (write) and 6 (seal). */
public final class SealTest {
    private static final Check CHECK = new Check();

    public static void main(String[] args) {
        writeRefuses();
        writeFillsTheDraft();
        sealPlain();
        sealSealed();
        sealedBytesWorkedOutElsewhere();
        sealCountsOn();
        sealEveryPadding();
        sealRefuses();
        sealRefusesInOrder();
        sealClosing();
        CHECK.finish();
    }

    private static void writeRefuses() {
        SealedRecords x = new SealedRecords(100);
        for (int end : Hand.NO_ENDS) {
            CHECK.no("write(" + end + ", 1)", x.write(end, 1));
        }
        for (int b : new int[] {-1, 256, Integer.MIN_VALUE, Integer.MAX_VALUE}) {
            CHECK.no("write(0, " + b + ")", x.write(0, b));
        }
        CHECK.due("draft", x.look(0, 9), 0);
    }

    private static void writeFillsTheDraft() {
        SealedRecords x = new SealedRecords(100);
        int[] content = {0, 255, 1, 2, 3, 4, 5, 6, 7, 8, 9, 10, 11, 12, 13, 14};
        for (int i = 0; i < 16; i++) {
            CHECK.yes("write " + i, x.write(1, content[i]));
            CHECK.due("draft", x.look(1, 9), i + 1);
        }
        CHECK.no("write a seventeenth", x.write(1, 1));
        CHECK.due("draft", x.look(1, 9), 16);
        CHECK.due("the other draft", x.look(0, 9), 0);
        CHECK.due("seal", x.seal(1, 22, 0), 16);
        CHECK.due("record", Hand.record(x, 0, 0), Hand.record(22, content));
        CHECK.due("draft", x.look(1, 9), 0);
        CHECK.yes("write again", x.write(1, 77));
        CHECK.due("seal", x.seal(1, 22, 0), 1);
        CHECK.due("record", Hand.record(x, 0, 1), "22: 77");
    }

    private static void sealPlain() {
        for (int type : new int[] {0, 1, 20, 22, 23, 255}) {
            SealedRecords x = new SealedRecords(100);
            CHECK.due("seal", Hand.send(x, 0, type, 0, 3, 0, 0), 3);
            CHECK.due("record", Hand.record(x, 1, 0), Hand.record(type, 3, 0, 0));
            CHECK.due("nothing", x.seal(0, type, 0), 0);
            CHECK.due("empty record", Hand.record(x, 1, 1), Hand.record(type));
            CHECK.due("waiting", x.waiting(1), 2);
            CHECK.due("not on the own wire", x.waiting(0), 0);
            CHECK.due("the count grows at stage 0 too", Hand.looks(x, 0), "0 0 2 0 0 0 -1 0 0 0");
        }
    }

    private static void sealSealed() {
        for (int stage = 1; stage <= 2; stage++) {
            long[] secrets = stage == 1 ? new long[] {7} : new long[] {7, 8};
            for (int end = 0; end < 2; end++) {
                for (int type : new int[] {0, 20, 22, 23, 255}) {
                    SealedRecords x = Hand.keyed(100, secrets);
                    long secret = Formulas.sendingSecret(end, secrets);
                    CHECK.due("seal", Hand.send(x, end, type, 3, 1, 0, 200), 15);
                    int[] due = Formulas.payload(secret, 0, 1, 0, 200, type, 0, 0, 0);
                    CHECK.due("record", Hand.record(x, 1 - end, 0), Hand.record(23, due));
                    CHECK.due("seal nothing", x.seal(end, type, 0), 9);
                    due = Formulas.payload(secret, 1, type);
                    CHECK.due("record", Hand.record(x, 1 - end, 1), Hand.record(23, due));
                    CHECK.due("count", x.look(end, 2), 2);
                    CHECK.due("draft", x.look(end, 9), 0);
                }
            }
        }
    }

    /** These payloads were worked out from the document's formulas by another program in another language. */
    private static void sealedBytesWorkedOutElsewhere() {
        SealedRecords x = Hand.keyed(100, 7);
        Hand.send(x, 0, 22, 3, 0, 65);
        CHECK.due("stage 1", Hand.record(x, 1, 0), "23: 73 20 118 108 25 37 175 161 94 108 233 89 179 172");
        SealedRecords y = Hand.keyed(100, Long.MIN_VALUE, -1);
        Hand.send(y, 1, 23, 0, 255, 0, 128);
        Hand.send(y, 1, 23, 1, 9);
        CHECK.due("stage 2", Hand.record(y, 0, 0), "23: 84 183 67 216 140 253 69 7 153 49 69 244");
        CHECK.due("stage 2, count 1", Hand.record(y, 0, 1), "23: 165 183 196 251 239 176 235 155 73 147 123");
        y.advance(1);
        Hand.send(y, 1, 22, 0, 24, 1, 0);
        CHECK.due("stage 2, advanced", Hand.record(y, 0, 2), "23: 198 211 198 173 14 184 178 245 146 94 25 195");
    }

    private static void sealCountsOn() {
        SealedRecords x = Hand.keyed(12, 7, 8);
        long secret = Formulas.sendingSecret(0, 7, 8);
        for (int n = 0; n < 12; n++) {
            CHECK.due("count", x.look(0, 2), n);
            CHECK.due("seal", Hand.send(x, 0, 23, 0, 50 + n), 10);
            CHECK.due("record " + n, Hand.record(x, 1, n), Hand.record(23, Formulas.payload(secret, n, 50 + n, 23)));
        }
        CHECK.due("waiting", x.waiting(1), 12);
    }

    private static void sealEveryPadding() {
        for (int bytes = 0; bytes <= 16; bytes++) {
            SealedRecords x = Hand.atStage(1);
            int[] content = new int[bytes];
            int most = 16 - bytes;
            Hand.send(x, 0, 22, most + 1, content);
            CHECK.due("too much padding", x.waiting(1), 0);
            CHECK.due("draft stays", x.look(0, 9), bytes);
            CHECK.due("as much as goes", x.seal(0, 22, most), 25);
            CHECK.due("one less", Hand.send(x, 0, 22, Math.max(0, most - 1), content), most == 0 ? 25 : 24);
        }
    }

    private static void sealRefuses() {
        SealedRecords x = Hand.atStage(1);
        for (int end : Hand.NO_ENDS) {
            CHECK.due("seal(" + end + ")", x.seal(end, 22, 0), SealedRecords.NONE);
        }
        x.write(0, 5);
        String before = Hand.all(x);
        for (int type : new int[] {-1, 256, Integer.MIN_VALUE, Integer.MAX_VALUE}) {
            CHECK.due("type " + type, x.seal(0, type, 0), SealedRecords.BAD);
        }
        for (int padding : new int[] {-1, 16, 17, Integer.MIN_VALUE, Integer.MAX_VALUE}) {
            CHECK.due("padding " + padding, x.seal(0, 22, padding), SealedRecords.BAD);
        }
        CHECK.due("nothing changed", Hand.all(x), before);
        SealedRecords y = new SealedRecords(100);
        for (int padding : new int[] {-1, 1, 16, Integer.MIN_VALUE, Integer.MAX_VALUE}) {
            CHECK.due("padding at stage 0: " + padding, y.seal(0, 22, padding), SealedRecords.BAD);
        }
        y.secret(0, 7);
        CHECK.due("padding when only the chain is at stage 1", y.seal(0, 22, 1), SealedRecords.BAD);
    }

    private static void sealRefusesInOrder() {
        SealedRecords x = new SealedRecords(12);
        for (int i = 0; i < 12; i++) {
            CHECK.due("seal", x.seal(0, 22, 0), 0);
        }
        CHECK.due("limit and wire full", x.seal(0, 22, 0), SealedRecords.EXHAUSTED);
        CHECK.due("bad, limit and wire full", x.seal(0, 256, 0), SealedRecords.BAD);
        CHECK.due("bad, limit and wire full", x.seal(0, 22, 1), SealedRecords.BAD);
        SealedRecords y = new SealedRecords(13);
        for (int i = 0; i < 12; i++) {
            y.inject(1, 0, 0, 0);
        }
        y.write(0, 4);
        String before = Hand.all(y);
        CHECK.due("wire full", y.seal(0, 22, 0), SealedRecords.FULL);
        CHECK.due("bad and wire full", y.seal(0, 22, -1), SealedRecords.BAD);
        CHECK.due("closing and wire full", y.seal(0, 21, 0), SealedRecords.FULL);
        CHECK.due("nothing changed", Hand.all(y), before);
        CHECK.due("the other wire is not full", y.seal(1, 21, 0), 0);
        CHECK.due("closed and bad", y.seal(1, 256, -1), SealedRecords.CLOSED);
        y.lose(1, 5);
        CHECK.due("room again", y.seal(0, 22, 0), 1);
        SealedRecords z = new SealedRecords(1);
        CHECK.due("closing", z.seal(0, 21, 0), 0);
        CHECK.due("closed and at the limit", z.seal(0, 22, 0), SealedRecords.CLOSED);
    }

    private static void sealClosing() {
        for (int stage = 0; stage <= 2; stage++) {
            SealedRecords x = Hand.atStage(stage);
            CHECK.due("open", x.look(0, 3), 0);
            Hand.send(x, 0, 22, 0, 21, 21);
            CHECK.due("not closed by a content", x.look(0, 3), 0);
            CHECK.due("closing", Hand.send(x, 0, 21, 0), stage == 0 ? 0 : 9);
            CHECK.due("closed", x.look(0, 3), 1);
            CHECK.due("waiting", x.waiting(1), 2);
            CHECK.due("count", x.look(0, 2), 2);
            CHECK.due("seal when closed", x.seal(0, 22, 0), SealedRecords.CLOSED);
            CHECK.yes("write when closed", x.write(0, 5));
            CHECK.due("receiving is not closed", x.look(0, 6), SealedRecords.NONE);
            CHECK.due("the other end is not closed", x.look(1, 3), 0);
            CHECK.due("the other end seals", x.seal(1, 22, 0), stage == 0 ? 0 : 9);
        }
    }
}
