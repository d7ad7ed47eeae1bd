/** The document's "Terms" up to SEALING: MIX, ENDS, RECORD, WIRE and SEALING, and the 512 calls. */
public final class TermsTest {
    private static final Check CHECK = new Check();
    private static final long[] SECRETS = {0, 1, -1, 7, Long.MAX_VALUE, Long.MIN_VALUE, 1L << 32, -5, 123456789012345L};

    public static void main(String[] args) {
        mixWrapsInTheTests();
        mixWrapsInTheProgram();
        sealedBytesWorkedOutElsewhere();
        endsZeroAndOne();
        chainAndStageAtFirst();
        sidesAtFirst();
        secretsOfTheSides();
        limitBelowOne();
        limitOneAndAbove();
        limitThousand();
        limitAboveThousand();
        draftOfAtMost16();
        itemsAtMost16();
        bytes();
        payloads();
        wireOfAtMost12();
        recordZeroIsTheOldest();
        sealingAtStage0();
        sealingEveryContentAndPadding();
        sealingEveryType();
        sealingWithTheCount();
        maskOfEachByte();
        tagOfEachLength();
        theLastCall();
        CHECK.finish();
    }

    /** The tests' own formula, held to numbers that were worked out in another language. */
    private static void mixWrapsInTheTests() {
        CHECK.sentence("MIX(a, b), for longs that wrap: with t = (a ^ b) * 6364136223846793005 + 1442695040888963407 it is t ^ (t >>> 29).");
        CHECK.due("MIX(0, 0)", Formulas.mix(0, 0), 1442695038202829496L);
        CHECK.due("MIX(1, 0)", Formulas.mix(1, 0), 7806831277038271774L);
        CHECK.due("MIX(0, 1)", Formulas.mix(0, 1), 7806831277038271774L);
        CHECK.due("MIX(-1, 0)", Formulas.mix(-1, 0), -4921441170937202513L);
        CHECK.due("MIX(-1, -1)", Formulas.mix(-1, -1), 1442695038202829496L);
        CHECK.due("MIX(least, 0)", Formulas.mix(Long.MIN_VALUE, 0), -7780677015831815496L);
        CHECK.due("MIX(greatest, -1)", Formulas.mix(Long.MAX_VALUE, -1), -7780677015831815496L);
        CHECK.due("MIX(7, 8)", Formulas.mix(7, 8), 4671018021429421505L);
        CHECK.due("MIX(123456789012345, -5)", Formulas.mix(123456789012345L, -5), 3020013939079005001L);
    }

    private static void mixWrapsInTheProgram() {
        CHECK.sentence("MIX(a, b), for longs that wrap: with t = (a ^ b) * 6364136223846793005 + 1442695040888963407 it is t ^ (t >>> 29).");
        for (long s : SECRETS) {
            Hand.sealsWith(CHECK, "the secret " + s, Hand.keyed(100, s), 0, Formulas.sendingSecret(0, s));
            for (long r : SECRETS) {
                Hand.sealsWith(CHECK, "the secrets " + s + ", " + r, Hand.keyed(100, s, r), 1, Formulas.sendingSecret(1, s, r));
            }
        }
    }

    /** These payloads were worked out from the document's formulas by another program in another language. */
    private static void sealedBytesWorkedOutElsewhere() {
        CHECK.sentence("its payload is these m bytes and then the eight bytes, highest first, of their TAG");
        Counted x = Hand.keyed(100, 7);
        Hand.send(x, 0, 22, 3, 0, 65);
        CHECK.due("stage 1", Hand.record(x, 1, 0), "23: 73 20 118 108 25 37 175 161 94 108 233 89 179 172");
        Counted y = Hand.keyed(100, Long.MIN_VALUE, -1);
        Hand.send(y, 1, 23, 0, 255, 0, 128);
        Hand.send(y, 1, 23, 1, 9);
        CHECK.due("stage 2", Hand.record(y, 0, 0), "23: 84 183 67 216 140 253 69 7 153 49 69 244");
        CHECK.due("stage 2, count 1", Hand.record(y, 0, 1), "23: 165 183 196 251 239 176 235 155 73 147 123");
        y.advance(1);
        Hand.send(y, 1, 22, 0, 24, 1, 0);
        CHECK.due("stage 2, advanced", Hand.record(y, 0, 2), "23: 198 211 198 173 14 184 178 245 146 94 25 195");
    }

    private static void endsZeroAndOne() {
        CHECK.sentence("ENDS 0 and 1.");
        Counted x = new Counted(100);
        for (int end = -3; end <= 4; end++) {
            CHECK.due("waiting(" + end + ")", x.waiting(end), end == 0 || end == 1 ? 0 : SealedRecords.NONE);
        }
        for (int bit = 1; bit < 32; bit++) {
            CHECK.due("an end of which only the lowest bit is one's", x.waiting(1 << bit | 1), SealedRecords.NONE);
        }
        Hand.write(x, 0, 5);
        Hand.write(x, 1, 6, 0);
        x.seal(0, 22, 0);
        x.seal(1, 22, 0);
        CHECK.due("each end delivers what the other sealed", x.deliver(0), 2);
        CHECK.due("each end delivers what the other sealed", x.deliver(1), 1);
        CHECK.due("each end has its own messages", x.look(0, 7), 0);
        CHECK.due("each end has its own messages", x.look(1, 7), 1);
    }

    private static void chainAndStageAtFirst() {
        CHECK.sentence("An end e has a CHAIN, a long, with a STAGE (both 0 at first)");
        for (int end = 0; end < 2; end++) {
            Counted x = new Counted(100);
            CHECK.due("stage", x.look(end, 0), 0);
            x.secret(end, 0);
            x.key(end, true);
            long chain = Formulas.mix(Formulas.mix(0, 3), 0);
            Hand.sealsWith(CHECK, "the chain began as 0", x, end, Formulas.mix(chain, 4 + end));
        }
    }

    private static void sidesAtFirst() {
        CHECK.sentence("A side has a stage (0 at first), from stage 1 on a SECRET, and a COUNT (0 at first).");
        Counted x = new Counted(100);
        for (int end = 0; end < 2; end++) {
            for (int what : new int[] {1, 2, 4, 5}) {
                CHECK.due("look(" + end + ", " + what + ")", x.look(end, what), 0);
            }
        }
    }

    private static void secretsOfTheSides() {
        CHECK.sentence("The chain of e gives the sending side of e the secret MIX(chain, 4 + e) and its receiving side MIX(chain, 5 - e).");
        for (int stage = 1; stage <= 2; stage++) {
            for (int end = 0; end < 2; end++) {
                long chain = Formulas.chain(Hand.secrets(stage));
                Hand.sealsWith(CHECK, "sending", Hand.atStage(stage), end, Formulas.mix(chain, 4 + end));
                Counted x = Hand.atStage(stage);
                Hand.forge(x, end, 23, Formulas.payload(Formulas.mix(chain, 5 - end), 0, 9, 0, 22));
                CHECK.due("receiving", x.deliver(end), 2);
            }
        }
    }

    /** Seals one record after the other, at most so many; answers how many went before the first refusal. */
    private static int sealUpTo(Counted x, int most) {
        int sealed = 0;
        int answer = 0;
        while (sealed < most && answer == 0) {
            if (sealed >= 12) {
                x.lose(1, 0);
            }
            answer = x.seal(0, 22, 0);
            sealed += answer == 0 ? 1 : 0;
        }
        if (sealed < most) {
            CHECK.due("the refusal", answer, SealedRecords.EXHAUSTED);
        }
        CHECK.due("count", x.look(0, 2), sealed);
        return sealed;
    }

    private static void limitBelowOne() {
        CHECK.sentence("The LIMIT is the constructor's number if that is 1 .. 1000, else 100.");
        for (int limit : new int[] {0, -1, -100, -1000, Integer.MIN_VALUE}) {
            CHECK.due("records under the limit " + limit, sealUpTo(new Counted(limit), 200), 100);
        }
    }

    private static void limitOneAndAbove() {
        CHECK.sentence("The LIMIT is the constructor's number if that is 1 .. 1000, else 100.");
        for (int limit : new int[] {1, 2, 11, 12, 13, 99, 100, 101, 255, 256, 257, 258}) {
            CHECK.due("records under the limit " + limit, sealUpTo(new Counted(limit), 260), limit);
        }
    }

    /** 512 calls bring no count to 1000; but they go far beyond 100, which a limit that was not kept would become. */
    private static void limitThousand() {
        CHECK.sentence("The LIMIT is the constructor's number if that is 1 .. 1000, else 100.");
        for (int limit : new int[] {999, 1000}) {
            CHECK.due("records under the limit " + limit, sealUpTo(new Counted(limit), 260), 260);
        }
    }

    private static void limitAboveThousand() {
        CHECK.sentence("The LIMIT is the constructor's number if that is 1 .. 1000, else 100.");
        for (int limit : new int[] {1001, 1002, 65536 + 5, Integer.MAX_VALUE}) {
            CHECK.due("records under the limit " + limit, sealUpTo(new Counted(limit), 260), 100);
        }
    }

    private static void draftOfAtMost16() {
        CHECK.sentence("a DRAFT of at most 16 bytes");
        for (int end = 0; end < 2; end++) {
            Counted x = new Counted(100);
            for (int i = 0; i < 20; i++) {
                x.write(end, i + 1);
                CHECK.due("draft", x.look(end, 9), Math.min(16, i + 1));
            }
            CHECK.due("the other draft", x.look(1 - end, 9), 0);
            x.seal(end, 22, 0);
            CHECK.due("the record", Hand.record(x, 1 - end, 0), "22: 1 2 3 4 5 6 7 8 9 10 11 12 13 14 15 16");
        }
    }

    private static void itemsAtMost16() {
        CHECK.sentence("ITEMS that were delivered and wait to be taken, at most 16.");
        for (int end = 0; end < 2; end++) {
            Counted x = Hand.atStage(2);
            for (int i = 0; i < 20; i++) {
                Hand.pass(x, 1 - end, 23, i);
                CHECK.due("items", x.items(end), Math.min(16, i + 1));
            }
            CHECK.due("items of the other end", x.items(1 - end), 0);
            for (int i = 0; i < 16; i++) {
                CHECK.due("item", Hand.oldestItem(x, end), "23: " + i);
                x.take(end);
            }
        }
    }

    private static void bytes() {
        CHECK.sentence("All bytes are numbers 0 .. 255.");
        int[] content = {0, 1, 127, 128, 129, 254, 255};
        for (int stage = 0; stage <= 2; stage++) {
            Counted x = Hand.atStage(stage);
            // as the body of a message, so that every stage takes it
            Hand.write(x, 0, 255, content.length);
            Hand.send(x, 0, 22, 0, content);
            String plain = Hand.record(22, 255, 7, 0, 1, 127, 128, 129, 254, 255);
            if (stage == 0) {
                CHECK.due("on the wire", Hand.record(x, 1, 0), plain);
            }
            int size = x.wire(1, 0, -1);
            for (int i = 1; i <= size; i++) {
                int b = x.wire(1, 0, i);
                CHECK.yes("a byte on the wire is " + b, b >= 0 && b <= 255);
            }
            CHECK.due("deliver", x.deliver(1), 9);
            CHECK.due("the item", Hand.oldestItem(x, 1), plain);
        }
    }

    private static void payloads() {
        CHECK.sentence("A RECORD is a TYPE (0 .. 255) and a PAYLOAD of 0 .. 40 bytes.");
        Counted x = new Counted(100);
        CHECK.yes("type 0 with 0 bytes", x.inject(0, 0, 0, 9));
        CHECK.yes("type 255 with 40 bytes", x.inject(0, 255, 40, 9));
        CHECK.no("41 bytes", x.inject(0, 255, 41, 9));
        CHECK.no("type 256", x.inject(0, 256, 40, 9));
        CHECK.no("type -1", x.inject(0, -1, 0, 9));
        int[] forty = new int[40];
        java.util.Arrays.fill(forty, 9);
        CHECK.due("the wire", Hand.wire(x, 0), "[0:][" + Hand.record(255, forty) + "]");
    }

    private static void wireOfAtMost12() {
        CHECK.sentence("On the WIRE TO an end at most 12 records wait");
        for (int end = 0; end < 2; end++) {
            Counted x = new Counted(100);
            for (int i = 0; i < 4; i++) {
                CHECK.due("seal", x.seal(1 - end, 22, 0), 0);
                CHECK.yes("copy", x.copy(end, 0));
                CHECK.yes("inject", x.inject(end, 22, 0, 0));
            }
            CHECK.due("seal when 12 wait", x.seal(1 - end, 22, 0), SealedRecords.FULL);
            CHECK.no("copy when 12 wait", x.copy(end, 0));
            CHECK.no("inject when 12 wait", x.inject(end, 22, 0, 0));
            CHECK.due("waiting", x.waiting(end), 12);
            CHECK.due("seal onto the other wire", x.seal(end, 22, 0), 0);
            x.lose(end, 0);
            CHECK.due("seal when 11 wait", x.seal(1 - end, 22, 0), 0);
            x.lose(end, 11);
            CHECK.yes("copy when 11 wait", x.copy(end, 10));
            x.deliver(end);
            CHECK.yes("inject when 11 wait", x.inject(end, 22, 0, 0));
            CHECK.due("waiting", x.waiting(end), 12);
        }
    }

    private static void recordZeroIsTheOldest() {
        CHECK.sentence("record 0 is the oldest.");
        Counted x = new Counted(100);
        for (int i = 0; i < 12; i++) {
            Hand.send(x, 0, 22, 0, i, 0);
        }
        for (int i = 0; i < 12; i++) {
            CHECK.due("record 0", Hand.record(x, 1, 0), Hand.record(22, i, 0));
            CHECK.due("the newest", Hand.record(x, 1, 11 - i), "22: 11 0");
            CHECK.due("deliver", x.deliver(1), 2);
        }
    }

    private static void sealingAtStage0() {
        CHECK.sentence("At stage 0 (z is 0 then) the record has the type y and the content as payload.");
        for (int bytes = 0; bytes <= 16; bytes++) {
            Counted x = new Counted(100);
            int[] content = counting(bytes);
            CHECK.due("seal", Hand.send(x, 0, 200, 0, content), bytes);
            CHECK.due("record", Hand.record(x, 1, 0), Hand.record(200, content));
        }
        for (int type = 0; type <= 255; type++) {
            Counted x = new Counted(100);
            CHECK.due("seal", Hand.send(x, 1, type, 0, 0, 0), 2);
            CHECK.due("record", Hand.record(x, 0, 0), Hand.record(type, 0, 0));
        }
    }

    private static int[] counting(int bytes) {
        int[] content = new int[bytes];
        for (int i = 0; i < bytes; i++) {
            content[i] = i % 3 == 2 ? 0 : 255 - i;
        }
        return content;
    }

    private static void sealingEveryContentAndPadding() {
        CHECK.sentence("SEALING a content of 0 .. 16 bytes with an inner type y and z bytes of padding");
        for (int bytes = 0; bytes <= 16; bytes++) {
            for (int z = 0; bytes + z <= 16; z++) {
                int stage = 1 + z % 2;
                Counted x = Hand.atStage(stage);
                int[] inner = java.util.Arrays.copyOf(counting(bytes), bytes + 1 + z);
                inner[bytes] = 22;
                CHECK.due("seal", Hand.send(x, 0, 22, z, counting(bytes)), bytes + z + 9);
                int[] due = Formulas.payload(Formulas.sendingSecret(0, Hand.secrets(stage)), 0, inner);
                CHECK.due(bytes + " bytes, " + z + " of padding", Hand.record(x, 1, 0), Hand.record(23, due));
            }
        }
    }

    private static void sealingEveryType() {
        CHECK.sentence("At stages 1 and 2 the INNER bytes are the content, then y, then z bytes 0.");
        for (int stage = 1; stage <= 2; stage++) {
            for (int type = 0; type <= 255; type++) {
                Counted x = Hand.atStage(stage);
                CHECK.due("seal", Hand.send(x, 1, type, 2, 4), 12);
                int[] due = Formulas.payload(Formulas.sendingSecret(1, Hand.secrets(stage)), 0, 4, type, 0, 0);
                CHECK.due("type " + type, Hand.record(x, 0, 0), Hand.record(23, due));
            }
        }
    }

    private static void sealingWithTheCount() {
        CHECK.sentence("by a side with count n.");
        Counted x = Hand.keyed(12, 7, 8);
        long secret = Formulas.sendingSecret(0, 7, 8);
        for (int n = 0; n < 12; n++) {
            CHECK.due("count", x.look(0, 2), n);
            CHECK.due("seal", Hand.send(x, 0, 23, 0, 50 + n), 10);
            CHECK.due("record " + n, Hand.record(x, 1, n), Hand.record(23, Formulas.payload(secret, n, 50 + n, 23)));
        }
    }

    /** What is 0 before it is combined shows the mask itself. */
    private static void maskOfEachByte() {
        CHECK.sentence("Byte i of them (from 0) is combined by ^ with the lowest eight bits of MIX(MIX(MIX(secret, 1), n), i) >>> 40.");
        Counted x = Hand.atStage(1);
        x.seal(0, 0, 16);
        long secret = Formulas.sendingSecret(0, 7);
        for (int i = 0; i < 17; i++) {
            long mask = Formulas.mix(Formulas.mix(Formulas.mix(secret, 1), 0), i);
            CHECK.due("byte " + i, x.wire(1, 0, i + 1), mask >>> 40 & 255);
        }
    }

    private static void tagOfEachLength() {
        CHECK.sentence("t = MIX(MIX(MIX(secret, 2), n), m), and then for each of the m bytes b, in order, t becomes MIX(t, b); the last t is the TAG.");
        long secret = Formulas.sendingSecret(0, 7);
        for (int m = 1; m <= 17; m++) {
            Counted x = Hand.atStage(1);
            x.seal(0, 22, m - 1);
            long t = Formulas.mix(Formulas.mix(Formulas.mix(secret, 2), 0), m);
            for (int i = 1; i <= m; i++) {
                t = Formulas.mix(t, x.wire(1, 0, i));
            }
            for (int i = 0; i < 8; i++) {
                CHECK.due("byte " + i + " of the tag of " + m, x.wire(1, 0, m + 1 + i), t >>> 56 - 8 * i & 255);
            }
        }
    }

    /** Exactly 512 calls; the record read by the last eight of them is the one with the count 256. */
    private static void theLastCall() {
        CHECK.sentence("An object is used for at most 512 calls after it has been made; what later calls answer is free.");
        Counted x = new Counted(257);
        CHECK.yes("secret", x.secret(0, 7));
        CHECK.due("key", x.key(0, true), 1);
        for (int n = 0; n <= 256; n++) {
            if (n >= 12) {
                CHECK.yes("lose", x.lose(1, 0));
            }
            CHECK.due("seal", x.seal(0, 22, 0), 9);
        }
        int[] due = Formulas.payload(Formulas.sendingSecret(0, 7), 256, 22);
        for (int i = 2; i <= 9; i++) {
            CHECK.due("byte " + i + " of the last", x.wire(1, 11, i), due[i - 1]);
        }
        CHECK.due("calls", x.calls(), Counted.MOST_CALLS);
    }
}
