/** Promise 7 (deliver), with opening, judging, messages, delivering and alerts. */
public final class DeliverTest {
    private static final Check CHECK = new Check();
    private static final int NONE = SealedRecords.NONE;

    public static void main(String[] args) {
        refusals();
        fullOfItems();
        closedTakesOff();
        everyContentAtEveryStage();
        ignored();
        typeTwentyOtherwise();
        plainTooLong();
        sealedWrongTypeOrLength();
        wrongTag();
        numberAndOrder();
        nothingButZeros();
        innerTypeFromTheContent();
        innerTypes();
        openMessage();
        closing();
        messagesAcrossContents();
        keyChanges();
        keyChangeAlerts();
        keyChangeOfTheFirst();
        alertsLeaveMessages();
        stagesApart();
        CHECK.finish();
    }

    private static void alert(String what, SealedRecords x, int end, int a) {
        int items = x.items(end);
        int waiting = x.waiting(end);
        int open = x.look(end, 7);
        CHECK.due(what, x.deliver(end), 256 + a);
        CHECK.due(what + ": reason", x.look(end, 6), 256 + a);
        CHECK.due(what + ": nothing is delivered", x.items(end), items);
        CHECK.due(what + ": the record is off", x.waiting(end), waiting - 1);
        CHECK.due(what + ": messages stay", x.look(end, 7), open);
        CHECK.due(what + ": the sending stays open", x.look(end, 3), 0);
    }

    private static void refusals() {
        SealedRecords x = new SealedRecords(100);
        for (int end : Hand.NO_ENDS) {
            CHECK.due("deliver(" + end + ")", x.deliver(end), NONE);
        }
        CHECK.due("no record", x.deliver(0), NONE);
        Hand.send(x, 0, 22, 0, 1, 0);
        CHECK.due("a record on the other wire", x.deliver(0), NONE);
        CHECK.due("a record", x.deliver(1), 2);
        CHECK.due("no record", x.deliver(1), NONE);
    }

    private static void fullOfItems() {
        SealedRecords x = Hand.atStage(2);
        for (int i = 0; i < 16; i++) {
            CHECK.due("deliver", Hand.pass(x, 0, 23, i), 1);
        }
        Hand.send(x, 0, 23, 0, 99);
        x.inject(1, 23, 0, 0);
        String before = Hand.all(x);
        CHECK.due("16 items wait", x.deliver(1), SealedRecords.FULL);
        CHECK.due("nothing changed", Hand.all(x), before);
        x.lose(1, 0);
        CHECK.due("16 items wait, and the record is bad", x.deliver(1), SealedRecords.FULL);
        CHECK.yes("take", x.take(1));
        alert("room again", x, 1, 20);
        CHECK.due("items", x.items(1), 15);
        for (int i = 1; i < 16; i++) {
            CHECK.due("items in their order", Hand.oldestItem(x, 1), "23: " + i);
            x.take(1);
        }
        SealedRecords y = new SealedRecords(100);
        for (int i = 0; i < 15; i++) {
            Hand.pass(y, 0, 22, 1, 0);
        }
        CHECK.due("a sixteenth", Hand.pass(y, 0, 21, 1, 0), 2);
        y.inject(1, 20, 1, 1);
        CHECK.due("closed comes before FULL", y.deliver(1), SealedRecords.CLOSED);
        SealedRecords z = new SealedRecords(100);
        for (int i = 0; i < 16; i++) {
            Hand.pass(z, 0, 22, 1, 0);
        }
        CHECK.due("no record comes before FULL", z.deliver(1), NONE);
        z.inject(1, 20, 1, 1);
        CHECK.due("FULL for what would be ignored", z.deliver(1), SealedRecords.FULL);
        CHECK.due("the record waits", z.waiting(1), 1);
    }

    private static void closedTakesOff() {
        SealedRecords x = Hand.atStage(2);
        Hand.send(x, 0, 21, 0, 0, 3);
        Hand.forge(x, 1, 23, Formulas.payload(Formulas.receivingSecret(1, 7, 8), 1, 5, 23));
        x.inject(1, 20, 1, 1);
        CHECK.due("closing", x.deliver(1), 2);
        String looks = Hand.looks(x, 1);
        CHECK.due("closed", x.deliver(1), SealedRecords.CLOSED);
        CHECK.due("one taken off", Hand.wire(x, 1), "[20: 1]");
        CHECK.due("closed", x.deliver(1), SealedRecords.CLOSED);
        CHECK.due("all taken off", x.waiting(1), 0);
        CHECK.due("nothing left", x.deliver(1), NONE);
        CHECK.due("nothing else", Hand.looks(x, 1), looks);
        CHECK.due("items", x.items(1), 1);
        CHECK.due("its sending goes on", x.seal(1, 23, 0), 9);
    }

    private static void everyContentAtEveryStage() {
        for (int stage = 0; stage <= 2; stage++) {
            int type = stage == 2 ? 23 : 22;
            for (int bytes = stage == 2 ? 0 : 2; bytes <= 16; bytes++) {
                int[] content = new int[bytes];
                for (int i = 2; i < bytes; i++) {
                    content[i] = i == bytes - 1 ? 0 : 256 - i;
                }
                if (bytes > 1) {
                    content[1] = bytes - 2;
                }
                for (int end = 0; end < 2; end++) {
                    SealedRecords x = Hand.atStage(stage);
                    Hand.send(x, end, type, stage == 0 ? 0 : 16 - bytes, content);
                    CHECK.due("deliver", x.deliver(1 - end), bytes);
                    CHECK.due("item", Hand.oldestItem(x, 1 - end), Hand.record(type, content));
                    CHECK.due("count", x.look(1 - end, 5), stage == 0 ? 0 : 1);
                    CHECK.due("no message is open", x.look(1 - end, 7), 0);
                    CHECK.due("not closed", x.look(1 - end, 6), NONE);
                    CHECK.due("off the wire", x.waiting(1 - end), 0);
                }
            }
        }
    }

    private static void ignored() {
        for (int stage = 0; stage <= 1; stage++) {
            SealedRecords x = Hand.atStage(stage);
            Hand.pass(x, 0, 22, 9);
            x.inject(1, 20, 1, 1);
            String looks = Hand.looks(x, 1);
            CHECK.due("ignored, a message being open", x.deliver(1), SealedRecords.IGNORED);
            CHECK.due("nothing changed", Hand.looks(x, 1), looks);
            CHECK.due("off the wire", x.waiting(1), 0);
            CHECK.due("no item of it", x.items(1), 1);
            CHECK.due("goes on", Hand.pass(x, 0, 22, 0), 1);
        }
        SealedRecords y = new SealedRecords(100);
        CHECK.due("sealed at stage 0", Hand.pass(y, 0, 20, 1), SealedRecords.IGNORED);
        y.secret(1, 7);
        y.secret(1, 8);
        y.key(1, true);
        y.inject(1, 20, 1, 1);
        CHECK.due("it is the receiving side's stage", y.deliver(1), SealedRecords.IGNORED);
    }

    private static void typeTwentyOtherwise() {
        for (int stage = 0; stage <= 2; stage++) {
            for (int n = 0; n <= 40; n += n == 2 ? 15 : n == 17 ? 23 : 1) {
                SealedRecords x = Hand.atStage(stage);
                x.inject(1, 20, n, n == 1 ? 0 : 1);
                alert("type 20 with " + n + " bytes", x, 1, 10);
            }
            SealedRecords y = Hand.atStage(stage);
            y.inject(1, 20, 1, 2);
            alert("type 20 with the byte 2", y, 1, 10);
        }
        SealedRecords z = Hand.atStage(2);
        z.inject(1, 20, 1, 1);
        alert("type 20 at stage 2", z, 1, 10);
        SealedRecords w = Hand.atStage(1);
        Hand.send(w, 0, 20, 0, 1);
        alert("an inner type 20 is not ignored", w, 1, 10);
        CHECK.due("it was opened", w.look(1, 5), 1);
    }

    private static void plainTooLong() {
        for (int type : new int[] {0, 22, 23}) {
            SealedRecords x = new SealedRecords(100);
            x.inject(1, type, 17, 0);
            alert("17 bytes at stage 0", x, 1, 22);
            SealedRecords y = new SealedRecords(100);
            y.inject(1, type, 40, 9);
            alert("40 bytes at stage 0", y, 1, 22);
        }
        SealedRecords z = new SealedRecords(100);
        z.inject(1, 22, 16, 0);
        CHECK.due("16 bytes at stage 0", z.deliver(1), 16);
        CHECK.due("eight messages of kind 0", z.look(1, 7), 0);
    }

    private static void sealedWrongTypeOrLength() {
        for (int stage = 1; stage <= 2; stage++) {
            for (int type : new int[] {0, 19, 21, 22, 24, 255}) {
                SealedRecords x = Hand.atStage(stage);
                Hand.send(x, 0, 22, 0, 1, 0);
                x.alter(1, 0, 0, 23 ^ type);
                alert("type " + type, x, 1, 10);
                CHECK.due("count", x.look(1, 5), 0);
                SealedRecords y = Hand.atStage(stage);
                y.inject(1, type, 26, 0);
                alert("the type comes before the length", y, 1, 10);
            }
            for (int n = 0; n <= 40; n++) {
                SealedRecords x = Hand.atStage(stage);
                x.inject(1, 23, n, 0);
                alert(n + " bytes", x, 1, n > 25 ? 22 : 20);
                CHECK.due("count", x.look(1, 5), 0);
            }
        }
    }

    private static void wrongTag() {
        for (int i = 1; i <= 14; i++) {
            SealedRecords x = Hand.atStage(2);
            Hand.send(x, 0, 23, 3, 1, 2);
            x.alter(1, 0, i, 1 << i % 8);
            alert("byte " + i + " altered", x, 1, 20);
            CHECK.due("count", x.look(1, 5), 0);
        }
        SealedRecords cut = Hand.atStage(2);
        Hand.send(cut, 0, 23, 0, 1, 2);
        cut.cut(1, 0);
        alert("cut", cut, 1, 20);
        SealedRecords restored = Hand.atStage(2);
        Hand.send(restored, 0, 23, 0, 1, 2);
        restored.alter(1, 0, 4, 77);
        restored.alter(1, 0, 4, 77);
        CHECK.due("altered and altered back", restored.deliver(1), 2);
        SealedRecords other = Hand.keyed(100, 7, 8);
        Hand.forge(other, 1, 23, Formulas.payload(Formulas.sendingSecret(1, 7, 8), 0, 5, 23));
        alert("sealed with the secret of the other direction", other, 1, 20);
    }

    private static void numberAndOrder() {
        SealedRecords x = Hand.atStage(2);
        Hand.send(x, 0, 23, 0, 1);
        x.copy(1, 0);
        CHECK.due("the first time", x.deliver(1), 1);
        alert("the second time", x, 1, 20);
        SealedRecords y = Hand.atStage(2);
        Hand.send(y, 0, 23, 0, 1);
        Hand.send(y, 0, 23, 0, 2);
        y.swap(1, 0);
        alert("in the wrong order", y, 1, 20);
        SealedRecords z = Hand.atStage(2);
        Hand.send(z, 0, 23, 0, 1);
        Hand.send(z, 0, 23, 0, 2);
        z.lose(1, 0);
        alert("after a loss", z, 1, 20);
        SealedRecords w = Hand.keyed(5, 7, 8);
        for (int n = 0; n < 8; n++) {
            Hand.forge(w, 1, 23, Formulas.payload(Formulas.receivingSecret(1, 7, 8), n, n, 23));
            CHECK.due("the limit does not bind the receiving", w.deliver(1), 1);
            CHECK.due("count", w.look(1, 5), n + 1);
        }
    }

    private static void nothingButZeros() {
        long secret = Formulas.receivingSecret(1, 7, 8);
        for (int m = 0; m <= 17; m++) {
            SealedRecords x = Hand.atStage(2);
            Hand.forge(x, 1, 23, Formulas.payload(secret, 0, new int[m]));
            alert(m + " zeros", x, 1, 10);
            CHECK.due("the count grew", x.look(1, 5), 1);
        }
        SealedRecords y = Hand.atStage(1);
        Hand.send(y, 0, 0, 4, 0, 0);
        alert("sealed with type 0", y, 1, 10);
        CHECK.due("the count grew", y.look(1, 5), 1);
    }

    private static void innerTypeFromTheContent() {
        SealedRecords x = Hand.atStage(2);
        Hand.send(x, 0, 0, 5, 1, 2, 23, 0);
        CHECK.due("type 0 is padding", x.deliver(1), 2);
        CHECK.due("item", Hand.oldestItem(x, 1), "23: 1 2");
        SealedRecords y = Hand.atStage(2);
        int[] inner = new int[17];
        inner[16] = 23;
        Hand.forge(y, 1, 23, Formulas.payload(Formulas.receivingSecret(1, 7, 8), 0, inner));
        CHECK.due("16 bytes 0", y.deliver(1), 16);
        CHECK.due("item", Hand.oldestItem(y, 1), Hand.record(23, new int[16]));
    }

    private static void innerTypes() {
        for (int stage = 0; stage <= 2; stage++) {
            for (int type = 1; type <= 255; type++) {
                if (type == 20) {
                    continue;
                }
                SealedRecords x = Hand.atStage(stage);
                Hand.send(x, 0, type, 0, 1, 0);
                boolean fine = type == 21 || type == 22 || type == 23 && stage == 2;
                CHECK.due("inner type " + type + " at stage " + stage, x.deliver(1), fine ? 2 : 266);
                CHECK.due("items", x.items(1), fine ? 1 : 0);
                CHECK.due("count", x.look(1, 5), stage == 0 ? 0 : 1);
            }
        }
        SealedRecords y = new SealedRecords(100);
        y.inject(1, 0, 2, 1);
        alert("type 0 at stage 0", y, 1, 10);
    }

    private static void openMessage() {
        for (int stage = 0; stage <= 2; stage++) {
            for (int type : new int[] {21, 23, 24}) {
                SealedRecords x = Hand.atStage(stage);
                CHECK.due("half a message", Hand.pass(x, 0, 22, 8, 2, 1), 3);
                CHECK.due("open", x.look(1, 7), 1);
                Hand.send(x, 0, type, 0, 1, 1);
                alert("type " + type + " in a message", x, 1, 10);
            }
            SealedRecords y = Hand.atStage(stage);
            Hand.pass(y, 0, 22, 8);
            Hand.send(y, 0, 21, 0, 1);
            alert("10 comes before 50", y, 1, 10);
            SealedRecords z = Hand.atStage(stage);
            Hand.pass(z, 0, 22, 8, 2, 1);
            CHECK.due("goes on", Hand.pass(z, 0, 22, 1), 1);
            CHECK.due("no more open", z.look(1, 7), 0);
            CHECK.due("another type then", Hand.pass(z, 0, 21, 1, 1), 2);
        }
        SealedRecords w = Hand.atStage(2);
        CHECK.due("half a message to one end", Hand.pass(w, 0, 22, 8), 1);
        CHECK.due("not open at the other", w.look(0, 7), 0);
        CHECK.due("which gets data", Hand.pass(w, 1, 23, 4), 1);
    }

    private static void closing() {
        for (int stage = 0; stage <= 2; stage++) {
            for (int reason : new int[] {0, 1, 200, 255}) {
                SealedRecords x = Hand.atStage(stage);
                CHECK.due("closing", Hand.pass(x, 0, 21, 7, reason), 2);
                CHECK.due("reason", x.look(1, 6), reason);
                CHECK.due("an item like the others", Hand.oldestItem(x, 1), Hand.record(21, 7, reason));
                CHECK.due("its sending is not closed", x.look(1, 3), 0);
                x.inject(1, 20, 1, 1);
                CHECK.due("closed", x.deliver(1), SealedRecords.CLOSED);
                CHECK.due("reason stays", x.look(1, 6), reason);
            }
            for (int bytes : new int[] {0, 1, 3, 16}) {
                SealedRecords x = Hand.atStage(stage);
                Hand.send(x, 0, 21, 0, new int[bytes]);
                alert("closing with " + bytes + " bytes", x, 1, 50);
            }
            SealedRecords y = Hand.atStage(stage);
            Hand.send(y, 0, 22, 0);
            alert("an empty content of type 22", y, 1, 10);
            SealedRecords z = Hand.atStage(stage);
            Hand.pass(z, 0, 22, 8);
            Hand.send(z, 0, 22, 0);
            alert("an empty content in a message", z, 1, 10);
        }
    }

    private static void messagesAcrossContents() {
        SealedRecords x = Hand.atStage(1);
        CHECK.due("kind", Hand.pass(x, 0, 22, 5), 1);
        CHECK.due("open", x.look(1, 7), 1);
        CHECK.due("length 0", Hand.pass(x, 0, 22, 0), 1);
        CHECK.due("not open", x.look(1, 7), 0);
        CHECK.due("two and a half", Hand.pass(x, 0, 22, 5, 0, 5, 1, 24, 5, 1), 7);
        CHECK.due("open", x.look(1, 7), 1);
        CHECK.due("its body, and a kind", Hand.pass(x, 0, 22, 24, 6), 2);
        CHECK.due("open", x.look(1, 7), 1);
        CHECK.due("length 255", Hand.pass(x, 0, 22, 255), 1);
        int[] body = new int[16];
        java.util.Arrays.fill(body, 24);
        for (int i = 0; i < 15; i++) {
            x.take(1);
            CHECK.due("16 bytes of 255", Hand.pass(x, 0, 22, body), 16);
            CHECK.due("open", x.look(1, 7), 1);
        }
        CHECK.due("14 more", Hand.pass(x, 0, 22, new int[14]), 14);
        CHECK.due("open", x.look(1, 7), 1);
        CHECK.due("the last", Hand.pass(x, 0, 22, 0), 1);
        CHECK.due("not open", x.look(1, 7), 0);
        SealedRecords y = new SealedRecords(100);
        CHECK.due("a message and a half", Hand.pass(y, 0, 22, 1, 0, 2), 3);
        CHECK.due("open", y.look(1, 7), 1);
    }

    private static void keyChanges() {
        int[][][] ways = {{{24, 1, -1}}, {{24}, {1, -1}}, {{24, 1}, {-1}}, {{24}, {1}, {-1}}, {{3, 0, 24, 1, -1}}, {{3, 1}, {24, 24, 1, -1}}};
        for (int[][] way : ways) {
            for (int body = 0; body <= 1; body++) {
                SealedRecords x = Hand.atStage(2);
                int n = 0;
                for (int[] part : way) {
                    int[] content = part.clone();
                    boolean last = part == way[way.length - 1];
                    if (last) {
                        content[content.length - 1] = body;
                    }
                    CHECK.due("owes before", x.look(1, 8), 0);
                    CHECK.due("deliver", Hand.pass(x, 0, 22, content), content.length);
                    n++;
                    CHECK.due("count", x.look(1, 5), last ? 0 : n);
                }
                CHECK.due("owes", x.look(1, 8), body);
                CHECK.due("looks of the sender", Hand.looks(x, 0), "2 2 " + n + " 0 2 0 -1 0 0 0");
                long secret = Formulas.mix(Formulas.receivingSecret(1, 7, 8), 6);
                Hand.forge(x, 1, 23, Formulas.payload(secret, 0, 40, 23));
                CHECK.due("with the new secret", x.deliver(1), 1);
                Hand.send(x, 0, 23, 0, 41);
                alert("with the old secret", x, 1, 20);
            }
        }
    }

    private static void keyChangeAlerts() {
        for (int stage = 0; stage <= 1; stage++) {
            for (int[] content : new int[][] {{24, 1, 0}, {24, 0}, {24, 2, 0, 0}, {24, 1, 2}, {1, 0, 24, 1, 1, 5}}) {
                SealedRecords x = Hand.atStage(stage);
                Hand.send(x, 0, 22, 0, content);
                alert("a key change at stage " + stage, x, 1, 10);
                CHECK.due("owes", x.look(1, 8), 0);
            }
        }
        int[][] contents = {{24, 0}, {24, 2, 0, 0}, {24, 0, 1}, {24, 3, 2, 2, 2, 9}, {24, 1, 2}, {24, 1, 255}, {24, 1, 2, 0}, {24, 1, 0, 0}, {24, 1, 1, 24, 1, 1}, {24, 1, 0, 3, 0}};
        int[] due = {50, 50, 50, 50, 47, 47, 47, 10, 10, 10};
        for (int i = 0; i < contents.length; i++) {
            SealedRecords x = Hand.atStage(2);
            Hand.send(x, 0, 22, 0, contents[i]);
            alert("key change " + i, x, 1, due[i]);
            CHECK.due("owes", x.look(1, 8), 0);
            CHECK.due("count", x.look(1, 5), 1);
        }
        SealedRecords y = Hand.atStage(2);
        CHECK.due("a key change that is not completed", Hand.pass(y, 0, 22, 24, 2, 0), 3);
        Hand.send(y, 0, 22, 0, 0);
        alert("and then is", y, 1, 50);
        SealedRecords z = Hand.atStage(1);
        CHECK.due("not completed at stage 1", Hand.pass(z, 0, 22, 24, 1), 2);
        Hand.send(z, 0, 22, 0, 0);
        alert("and then is", z, 1, 10);
    }

    private static void keyChangeOfTheFirst() {
        SealedRecords x = Hand.atStage(2);
        Hand.send(x, 0, 22, 0, 24, 1, 3, 24, 2, 0, 0);
        alert("the first one's body", x, 1, 47);
        SealedRecords y = Hand.atStage(2);
        Hand.send(y, 0, 22, 0, 24, 1, 0, 24, 0);
        alert("the first one's place", y, 1, 10);
        SealedRecords z = Hand.atStage(2);
        Hand.pass(z, 0, 22, 24, 5, 1, 1, 1, 1);
        Hand.send(z, 0, 22, 0, 1, 24, 1, 0);
        alert("the first one began before", z, 1, 50);
        SealedRecords w = Hand.atStage(2);
        CHECK.due("24 as a length and in a body", Hand.pass(w, 0, 22, 23, 3, 24, 1, 1, 25, 1, 24), 8);
        CHECK.due("is no key change", w.look(1, 5), 1);
        CHECK.due("owes", w.look(1, 8), 0);
    }

    private static void alertsLeaveMessages() {
        SealedRecords x = Hand.atStage(2);
        Hand.send(x, 0, 22, 0, 24, 0, 9);
        alert("the rest would be open", x, 1, 50);
        CHECK.due("but is not", x.look(1, 7), 0);
        SealedRecords y = Hand.atStage(2);
        Hand.pass(y, 0, 22, 24);
        Hand.send(y, 0, 22, 0, 1, 7);
        alert("the rest would close it", y, 1, 47);
        CHECK.due("but does not", y.look(1, 7), 1);
        CHECK.due("secret, count and debt stay", Hand.looks(y, 1), "2 2 0 0 2 2 303 1 0 0");
    }

    private static void stagesApart() {
        SealedRecords x = new SealedRecords(100);
        x.secret(0, 7);
        x.key(0, true);
        Hand.send(x, 0, 22, 0, 1, 0);
        alert("sealed at stage 1, opened at stage 0", x, 1, 10);
        SealedRecords y = new SealedRecords(100);
        y.secret(1, 7);
        y.key(1, false);
        Hand.send(y, 0, 22, 0, 1, 0);
        alert("sealed at stage 0, opened at stage 1", y, 1, 10);
        SealedRecords z = Hand.keyed(100, 7);
        z.secret(0, 8);
        z.key(0, true);
        Hand.send(z, 0, 22, 0, 1, 0);
        alert("sealed at stage 2, opened at stage 1", z, 1, 20);
        SealedRecords w = new SealedRecords(100);
        w.secret(0, 7);
        w.secret(1, 6);
        w.key(0, true);
        w.key(1, false);
        Hand.send(w, 0, 22, 0, 1, 0);
        alert("with different secrets", w, 1, 20);
    }
}
