/** The document's OPENING, seen through promise 7 (deliver). */
public final class OpeningTest {
    private static final Check CHECK = new Check();
    private static final int IGNORED = SealedRecords.IGNORED;

    public static void main(String[] args) {
        type20OfOneByte1();
        type20OfOtherBytes();
        type20AtStage2();
        type20ByTheReceivingStage();
        type20ComesFirst();
        type20InsideIsNotIgnored();
        plainUpTo16();
        plainMoreThan16();
        plainMoreThan16ComesBeforeJudging();
        plainIsTakenAsItIs();
        plainDoesNotCount();
        sealedOtherTypes();
        sealedOtherTypesComeFirst();
        sealedOf25();
        sealedOfMoreThan25();
        sealedOfFewerThan8();
        sealedOf8();
        everyBitOfATag();
        everyByteBeforeTheTag();
        tagOfAnotherLength();
        tagOfAnotherSecret();
        tagOfAnotherCount();
        countGrows();
        countGrowsFar();
        countStaysWhateverFollows();
        countDoesNotGrow();
        limitDoesNotBindTheReceiving();
        nothingButZeros();
        lastThatIsNot0();
        contentOf16Zeros();
        type0IsPadding();
        CHECK.finish();
    }

    private static void alert(String what, Counted x, int end, int a) {
        Hand.alert(CHECK, what, x, end, a);
    }

    private static void type20OfOneByte1() {
        CHECK.sentence("Its type is 20: if its payload is one byte, that byte is 1, and the side's stage is 0 or 1, the record is IGNORED");
        for (int stage = 0; stage <= 1; stage++) {
            for (int end = 0; end < 2; end++) {
                Counted x = Hand.atStage(stage);
                CHECK.due("half a message", Hand.pass(x, 1 - end, 22, 9, 2, 0), 3);
                x.inject(end, 20, 1, 1);
                Hand.send(x, 1 - end, 22, 0, 0);
                String looks = Hand.looks(x, end);
                CHECK.due("deliver", x.deliver(end), IGNORED);
                CHECK.due("nothing of the end changed", Hand.looks(x, end), looks);
                CHECK.due("no item came", x.items(end), 1);
                CHECK.due("the record is off the wire", x.waiting(end), 1);
                CHECK.due("the message goes on", x.deliver(end), 1);
                CHECK.due("and is complete", x.look(end, 7), 0);
            }
        }
        CHECK.due("sealed at stage 0", Hand.pass(new Counted(100), 0, 20, 1), IGNORED);
    }

    private static void type20OfOtherBytes() {
        CHECK.sentence("Its type is 20: if its payload is one byte, that byte is 1, and the side's stage is 0 or 1, the record is IGNORED; otherwise alert 10.");
        for (int stage = 0; stage <= 1; stage++) {
            for (int b = 0; b <= 255; b++) {
                Counted x = Hand.atStage(stage);
                x.inject(1, 20, 1, b);
                if (b != 1) {
                    alert("the byte " + b, x, 1, 10);
                }
            }
            for (int n = 0; n <= 40; n++) {
                Counted x = Hand.atStage(stage);
                x.inject(1, 20, n, 1);
                if (n != 1) {
                    alert(n + " bytes", x, 1, 10);
                }
            }
        }
    }

    private static void type20AtStage2() {
        CHECK.sentence("and the side's stage is 0 or 1, the record is IGNORED; otherwise alert 10.");
        for (int n = 0; n <= 2; n++) {
            Counted x = Hand.atStage(2);
            x.inject(1, 20, n, 1);
            alert("stage 2, " + n + " bytes", x, 1, 10);
            CHECK.due("count", x.look(1, 5), 0);
        }
    }

    private static void type20ByTheReceivingStage() {
        CHECK.sentence("and the side's stage is 0 or 1");
        Counted x = new Counted(100);
        x.secret(1, 7);
        x.secret(1, 8);
        x.key(1, true);
        x.inject(1, 20, 1, 1);
        CHECK.due("chain and sending are at stage 2, receiving at 0", x.deliver(1), IGNORED);
        x.key(1, false);
        x.inject(1, 20, 1, 1);
        alert("receiving too", x, 1, 10);
    }

    private static void type20ComesFirst() {
        CHECK.sentence("the first of these that holds");
        Counted x = new Counted(100);
        x.inject(1, 20, 17, 1);
        alert("type 20 and too long at stage 0", x, 1, 10);
        Counted y = Hand.atStage(1);
        y.inject(1, 20, 26, 1);
        alert("type 20 and too long at stage 1", y, 1, 10);
    }

    private static void type20InsideIsNotIgnored() {
        CHECK.sentence("Its type is 20");
        Counted x = Hand.atStage(1);
        Hand.send(x, 0, 20, 0, 1);
        alert("an inner type 20", x, 1, 10);
        CHECK.due("it was opened", x.look(1, 5), 1);
    }

    private static void plainUpTo16() {
        CHECK.sentence("The stage is 0: alert 22 if the payload has more than 16 bytes; otherwise");
        for (int n = 1; n <= 16; n++) {
            Counted x = new Counted(100);
            x.inject(1, 22, n, 1);
            CHECK.due(n + " bytes", x.deliver(1), n);
        }
    }

    private static void plainMoreThan16() {
        CHECK.sentence("The stage is 0: alert 22 if the payload has more than 16 bytes");
        for (int n = 17; n <= 40; n++) {
            Counted x = new Counted(100);
            x.inject(1, 22, n, 1);
            alert(n + " bytes", x, 1, 22);
        }
    }

    private static void plainMoreThan16ComesBeforeJudging() {
        CHECK.sentence("JUDGING, when there was no alert and the record is not ignored");
        for (int type : new int[] {0, 19, 21, 23, 24, 255}) {
            Counted x = new Counted(100);
            x.inject(1, type, 17, 0);
            alert("type " + type + " and too long", x, 1, 22);
        }
        Counted y = new Counted(100);
        Hand.pass(y, 0, 22, 9);
        y.inject(1, 21, 17, 0);
        alert("a message is open", y, 1, 22);
    }

    private static void plainIsTakenAsItIs() {
        CHECK.sentence("otherwise the inner type is the record's type, and the content its payload.");
        Counted x = new Counted(100);
        Hand.forge(x, 1, 22, 9, 3, 0, 5, 0);
        CHECK.due("zeros at the end stay", x.deliver(1), 5);
        CHECK.due("item", Hand.oldestItem(x, 1), "22: 9 3 0 5 0");
        Hand.forge(x, 1, 21, 0, 0);
        CHECK.due("closing", x.deliver(1), 2);
        x.take(1);
        CHECK.due("item", Hand.oldestItem(x, 1), "21: 0 0");
    }

    private static void plainDoesNotCount() {
        CHECK.sentence("(The count stays 0.)");
        Counted x = new Counted(100);
        for (int n = 0; n < 5; n++) {
            Hand.pass(x, 0, 22, 1, 0);
            CHECK.due("count", x.look(1, 5), 0);
        }
        x.inject(1, 21, 0, 0);
        alert("an alert", x, 1, 50);
        CHECK.due("count", x.look(1, 5), 0);
    }

    private static void sealedOtherTypes() {
        CHECK.sentence("The type is not 23: alert 10.");
        for (int stage = 1; stage <= 2; stage++) {
            for (int type = 0; type <= 255; type++) {
                Counted x = Hand.atStage(stage);
                Hand.send(x, 0, 22, 0, 1, 0);
                if (type != 23) {
                    x.alter(1, 0, 0, 23 ^ type);
                    alert("type " + type, x, 1, 10);
                    CHECK.due("count", x.look(1, 5), 0);
                } else {
                    CHECK.due("type 23", x.deliver(1), 2);
                }
            }
        }
    }

    private static void sealedOtherTypesComeFirst() {
        CHECK.sentence("the first of these that holds");
        for (int stage = 1; stage <= 2; stage++) {
            for (int n : new int[] {0, 7, 8, 25, 26, 40}) {
                Counted x = Hand.atStage(stage);
                x.inject(1, 22, n, 0);
                alert("type 22, whatever the length and tag", x, 1, 10);
            }
        }
    }

    private static void sealedOf25() {
        CHECK.sentence("The payload has more than 25 bytes: alert 22.");
        for (int stage = 1; stage <= 2; stage++) {
            Counted x = Hand.atStage(stage);
            Hand.send(x, 0, 22, 0, 9, 14, 1, 2, 3, 4, 5, 6, 7, 8, 9, 10, 11, 12, 13, 14);
            CHECK.due("bytes", x.wire(1, 0, -1), 25);
            CHECK.due("25 bytes", x.deliver(1), 16);
            CHECK.due("item", Hand.oldestItem(x, 1), "22: 9 14 1 2 3 4 5 6 7 8 9 10 11 12 13 14");
        }
    }

    private static void sealedOfMoreThan25() {
        CHECK.sentence("The payload has more than 25 bytes: alert 22.");
        for (int stage = 1; stage <= 2; stage++) {
            for (int m = 18; m <= 32; m++) {
                Counted x = Hand.atStage(stage);
                int[] inner = new int[m];
                inner[2] = 22;
                Hand.forgeSealed(x, 1, stage, 0, inner);
                alert(m + 8 + " bytes with the right tag", x, 1, 22);
                CHECK.due("count", x.look(1, 5), 0);
                Counted y = Hand.atStage(stage);
                y.inject(1, 23, m + 8, 5);
                alert(m + 8 + " bytes with a wrong tag", y, 1, 22);
            }
        }
    }

    private static void sealedOfFewerThan8() {
        CHECK.sentence("It has fewer than 8");
        for (int stage = 1; stage <= 2; stage++) {
            for (int n = 0; n < 8; n++) {
                Counted x = Hand.atStage(stage);
                x.inject(1, 23, n, 0);
                alert(n + " bytes", x, 1, 20);
                Counted y = Hand.atStage(stage);
                Hand.forgeSealed(y, 1, stage, 0);
                for (int i = 8; i > n; i--) {
                    y.cut(1, 0);
                }
                alert("the first " + n + " bytes of a tag", y, 1, 20);
                CHECK.due("count", y.look(1, 5), 0);
            }
        }
    }

    private static void sealedOf8() {
        CHECK.sentence("It has fewer than 8, or the last 8 are not the TAG");
        for (int stage = 1; stage <= 2; stage++) {
            Counted x = Hand.atStage(stage);
            Hand.forgeSealed(x, 1, stage, 0);
            CHECK.due("bytes", x.wire(1, 0, -1), 8);
            alert("nothing with its tag has no inner type", x, 1, 10);
            CHECK.due("count", x.look(1, 5), 1);
            Counted y = Hand.atStage(stage);
            y.inject(1, 23, 8, 0);
            alert("nothing with a wrong tag", y, 1, 20);
        }
    }

    private static void everyBitOfATag() {
        CHECK.sentence("or the last 8 are not the TAG, for this secret and n, of those before them: alert 20.");
        for (int bit = 0; bit < 64; bit++) {
            Counted x = Hand.atStage(2);
            Hand.send(x, 0, 23, 3, 1, 2);
            x.alter(1, 0, 7 + bit / 8, 1 << bit % 8);
            alert("bit " + bit, x, 1, 20);
            CHECK.due("count", x.look(1, 5), 0);
        }
        Counted y = Hand.atStage(2);
        Hand.send(y, 0, 23, 0, 1, 2);
        y.alter(1, 0, 4, 77);
        y.alter(1, 0, 4, 77);
        CHECK.due("altered and altered back", y.deliver(1), 2);
    }

    private static void everyByteBeforeTheTag() {
        CHECK.sentence("or the last 8 are not the TAG, for this secret and n, of those before them: alert 20.");
        for (int i = 1; i <= 17; i++) {
            Counted x = Hand.atStage(1);
            Hand.send(x, 0, 22, 14, 1, 2);
            x.alter(1, 0, i, i % 2 == 0 ? 1 : 128);
            alert("byte " + i, x, 1, 20);
        }
    }

    private static void tagOfAnotherLength() {
        CHECK.sentence("or the last 8 are not the TAG, for this secret and n, of those before them: alert 20.");
        Counted x = Hand.atStage(2);
        Hand.send(x, 0, 23, 0, 1, 2);
        x.cut(1, 0);
        alert("cut", x, 1, 20);
        // the tag of two bytes behind three
        Counted y = Hand.atStage(2);
        int[] two = Formulas.payload(Formulas.receivingSecret(1, 7, 8), 0, 5, 23);
        int[] three = new int[two.length + 1];
        System.arraycopy(two, 0, three, 0, 2);
        System.arraycopy(two, 2, three, 3, 8);
        Hand.forge(y, 1, 23, three);
        alert("a byte put in", y, 1, 20);
    }

    private static void tagOfAnotherSecret() {
        CHECK.sentence("for this secret");
        Counted x = Hand.atStage(2);
        Hand.forge(x, 1, 23, Formulas.payload(Formulas.sendingSecret(1, 7, 8), 0, 5, 23));
        alert("of the other direction", x, 1, 20);
        Counted y = Hand.atStage(2);
        Hand.forge(y, 1, 23, Formulas.payload(Formulas.receivingSecret(1, 7), 0, 5, 0, 22));
        alert("of stage 1 at stage 2", y, 1, 20);
        Counted z = Hand.atStage(2);
        z.advance(0);
        Hand.send(z, 0, 23, 0, 5);
        alert("advanced", z, 1, 20);
        Counted w = new Counted(100);
        w.secret(0, 7);
        w.key(0, true);
        Hand.send(w, 0, 22, 0, 5, 0);
        alert("sealed at stage 1 and opened at stage 0, where 23 is not allowed", w, 1, 10);
        Counted v = new Counted(100);
        v.secret(1, 7);
        v.key(1, false);
        Hand.send(v, 0, 22, 0, 5, 0);
        alert("sealed at stage 0 and opened at stage 1", v, 1, 10);
    }

    private static void tagOfAnotherCount() {
        CHECK.sentence("and n");
        Counted x = Hand.atStage(2);
        Hand.send(x, 0, 23, 0, 1);
        x.copy(1, 0);
        CHECK.due("the first time", x.deliver(1), 1);
        alert("the second time", x, 1, 20);
        Counted y = Hand.atStage(2);
        Hand.send(y, 0, 23, 0, 1);
        Hand.send(y, 0, 23, 0, 2);
        y.swap(1, 0);
        alert("in the wrong order", y, 1, 20);
        Counted z = Hand.atStage(2);
        Hand.send(z, 0, 23, 0, 1);
        Hand.send(z, 0, 23, 0, 2);
        z.lose(1, 0);
        alert("after a loss", z, 1, 20);
        Counted w = Hand.atStage(2);
        Hand.forgeSealed(w, 1, 2, -1, 5, 23);
        alert("the count -1", w, 1, 20);
    }

    private static void countGrows() {
        CHECK.sentence("In all other cases the count grows by 1");
        for (int stage = 1; stage <= 2; stage++) {
            Counted x = Hand.atStage(stage);
            for (int n = 1; n <= 14; n++) {
                CHECK.due("deliver", Hand.pass(x, 0, 22, 1, 0), 2);
                CHECK.due("count", x.look(1, 5), n);
            }
            CHECK.due("the other counts of that end", x.look(1, 2), 0);
            CHECK.due("the receiving count of the other end", x.look(0, 5), 0);
        }
    }

    /** As far as 512 calls go, for each record must be sealed, delivered and taken. */
    private static void countGrowsFar() {
        CHECK.sentence("In all other cases the count grows by 1");
        Counted x = new Counted(1000);
        for (int end = 0; end < 2; end++) {
            x.secret(end, 7);
            x.secret(end, 8);
            x.key(end, end == 0);
        }
        for (int n = 0; n < 168; n++) {
            x.seal(0, 23, 0);
            CHECK.due("deliver", x.deliver(1), 0);
            x.take(1);
        }
        CHECK.due("count", x.look(1, 5), 168);
    }

    private static void countStaysWhateverFollows() {
        CHECK.sentence("(it stays so, whatever follows)");
        int[] types = {24, 0, 21, 22, 22, 22, 22, 23};
        int[][] contents = {{1}, {0, 0}, {1}, {}, {24, 0}, {24, 1, 2}, {24, 1, 1, 5}, {}};
        int[] due = {266, 266, 306, 266, 306, 303, 266, 0};
        for (int i = 0; i < types.length; i++) {
            Counted x = Hand.atStage(2);
            Hand.pass(x, 0, 23);
            CHECK.due("deliver", Hand.pass(x, 0, types[i], contents[i]), due[i]);
            CHECK.due("count", x.look(1, 5), 2);
        }
    }

    private static void countDoesNotGrow() {
        CHECK.sentence("In all other cases the count grows by 1");
        int[][] records = {{20, 0}, {22, 9}, {23, 26}, {23, 7}, {23, 8}};
        for (int[] record : records) {
            Counted x = Hand.atStage(1);
            Hand.pass(x, 0, 22, 1, 0);
            x.inject(1, record[0], record[1], 0);
            x.deliver(1);
            CHECK.due("count", x.look(1, 5), 1);
        }
        Counted y = Hand.atStage(1);
        Hand.pass(y, 0, 22, 1, 0);
        y.inject(1, 20, 1, 1);
        y.deliver(1);
        CHECK.due("count after what was ignored", y.look(1, 5), 1);
    }

    private static void limitDoesNotBindTheReceiving() {
        CHECK.sentence("In all other cases the count grows by 1");
        Counted x = Hand.keyed(1, 7, 8);
        for (int n = 0; n < 8; n++) {
            Hand.forgeSealed(x, 1, 2, n, 5, 23);
            CHECK.due("deliver", x.deliver(1), 1);
            CHECK.due("count", x.look(1, 5), n + 1);
        }
    }

    private static void nothingButZeros() {
        CHECK.sentence("If there is none that is not 0, alert 10");
        for (int stage = 1; stage <= 2; stage++) {
            for (int m = 0; m <= 17; m++) {
                Counted x = Hand.atStage(stage);
                Hand.forgeSealed(x, 1, stage, 0, new int[m]);
                alert(m + " zeros", x, 1, 10);
                CHECK.due("count", x.look(1, 5), 1);
            }
            Counted y = Hand.atStage(stage);
            Hand.send(y, 0, 0, 14, 0, 0);
            alert("sealed with type 0", y, 1, 10);
        }
    }

    private static void lastThatIsNot0() {
        CHECK.sentence("otherwise the last one that is not 0 is the inner type, and those before it are the content.");
        for (int at = 0; at <= 16; at++) {
            for (int m = at + 1; m <= 17; m++) {
                Counted x = Hand.atStage(2);
                int[] inner = new int[m];
                java.util.Arrays.fill(inner, 0, at, 9);
                inner[at] = 23;
                Hand.forgeSealed(x, 1, 2, 0, inner);
                CHECK.due("deliver", x.deliver(1), at);
                int[] content = java.util.Arrays.copyOf(inner, at);
                CHECK.due(at + " of " + m, Hand.oldestItem(x, 1), Hand.record(23, content));
            }
        }
    }

    private static void contentOf16Zeros() {
        CHECK.sentence("and those before it are the content.");
        for (int bytes = 0; bytes <= 16; bytes++) {
            Counted x = Hand.atStage(2);
            Hand.send(x, 0, 23, 16 - bytes, new int[bytes]);
            CHECK.due("deliver", x.deliver(1), bytes);
            CHECK.due(bytes + " zeros", Hand.oldestItem(x, 1), Hand.record(23, new int[bytes]));
        }
    }

    private static void type0IsPadding() {
        CHECK.sentence("otherwise the last one that is not 0 is the inner type");
        Counted x = Hand.atStage(2);
        Hand.send(x, 0, 0, 5, 1, 2, 23, 0);
        CHECK.due("a type 0 shows the content's last", x.deliver(1), 2);
        CHECK.due("item", Hand.oldestItem(x, 1), "23: 1 2");
        Counted y = Hand.atStage(2);
        Hand.send(y, 0, 0, 0, 23, 23);
        CHECK.due("only the last one", y.deliver(1), 1);
        CHECK.due("item", Hand.oldestItem(y, 1), "23: 23");
    }
}
