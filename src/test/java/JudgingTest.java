/** The document's JUDGING, MESSAGES, DELIVERING and ALERT, seen through promise 7 (deliver). */
public final class JudgingTest {
    private static final Check CHECK = new Check();
    private static final int CLOSED = SealedRecords.CLOSED;
    private static final int NONE = SealedRecords.NONE;

    public static void main(String[] args) {
        innerTypes();
        type0AtStage0();
        dataBelowStage2();
        otherTypeInAMessage();
        otherTypeBehindAMessage();
        openAtOneEndOnly();
        closingOfNotTwoBytes();
        closingInAMessageComesFirst();
        wrongTypeComesFirst();
        emptyContentOfMessages();
        emptyContentOfData();
        keyChangeBelowStage2();
        keyChangeOfAnotherLength();
        keyChangeOfAnotherBody();
        keyChangeThatIsNotTheLast();
        keyChangeAlertsInTheirOrder();
        keyChangeOfTheFirstOne();
        keyChangeThatIsNotCompleted();
        everyLength();
        longestMessage();
        openFromTheFirstByteToTheLast();
        severalMessagesInAContent();
        oneBehindTheOther();
        goesOnBehindOtherRecords();
        goesOnWithTheNextContent();
        completedInTheContentWithTheLastByte();
        keyChangeOfKind24();
        kind24InABody();
        newestItem();
        reasonIsTheSecondByte();
        keyChangeChangesTheSecret();
        keyChangeSetsTheCountBack();
        keyChangeOwes();
        goesOnOwing();
        keyChangeLeavesTheSending();
        alertCloses();
        alertDeliversNothing();
        alertLeavesMessages();
        CHECK.finish();
    }

    private static void alert(String what, Counted x, int a) {
        Hand.alert(CHECK, what, x, 1, a);
    }

    /** A new object at this stage; what end 0 sends gives the alert at end 1. */
    private static void alertOf(String what, int stage, int a, int type, int... content) {
        Counted x = Hand.atStage(stage);
        Hand.send(x, 0, type, 0, content);
        alert(what + " at stage " + stage, x, a);
    }

    private static void innerTypes() {
        CHECK.sentence("The inner type is not 21, 22 or 23, or it is 23 and the side's stage is not 2: alert 10.");
        for (int stage = 0; stage <= 2; stage++) {
            for (int type = 1; type <= 255; type++) {
                Counted x = Hand.atStage(stage);
                Hand.send(x, 0, type, 0, 1, 0);
                boolean fine = type == 21 || type == 22 || type == 23 && stage == 2;
                if (fine) {
                    CHECK.due("type " + type + " at stage " + stage, x.deliver(1), 2);
                } else {
                    alert("type " + type + " at stage " + stage, x, 10);
                }
            }
        }
    }

    /** Above stage 0 an inner type is never 0. */
    private static void type0AtStage0() {
        CHECK.sentence("The inner type is not 21, 22 or 23");
        alertOf("type 0", 0, 10, 0, 1, 0);
        alertOf("type 0 and no content", 0, 10, 0);
    }

    private static void dataBelowStage2() {
        CHECK.sentence("or it is 23 and the side's stage is not 2: alert 10.");
        for (int bytes : new int[] {0, 1, 2, 16}) {
            alertOf("data", 0, 10, 23, new int[bytes]);
            alertOf("data", 1, 10, 23, new int[bytes]);
            CHECK.due("data at stage 2", Hand.pass(Hand.atStage(2), 0, 23, new int[bytes]), bytes);
        }
        Counted x = Hand.atStage(1);
        x.secret(1, 8);
        x.key(1, true);
        Hand.send(x, 0, 23, 0, 1);
        alert("chain and sending are at stage 2, receiving at 1", x, 10);
    }

    private static void otherTypeInAMessage() {
        CHECK.sentence("A message is OPEN and the inner type is not 22: alert 10.");
        int[][] begun = {{9}, {9, 1}, {9, 2, 0}, {9, 0, 9}, {24}, {24, 1}};
        for (int stage = 0; stage <= 2; stage++) {
            for (int[] content : begun) {
                for (int type : new int[] {21, 23}) {
                    Counted x = Hand.atStage(stage);
                    CHECK.due("part of a message", Hand.pass(x, 0, 22, content), content.length);
                    Hand.send(x, 0, type, 0, 1, 1);
                    alert("type " + type + " in a message", x, 10);
                }
                // with a body byte a key change would be judged
                if (content.length < 2 || content[0] != 24) {
                    Counted y = Hand.atStage(stage);
                    Hand.pass(y, 0, 22, content);
                    CHECK.due("type 22 goes on", Hand.pass(y, 0, 22, 1), 1);
                }
            }
        }
    }

    private static void otherTypeBehindAMessage() {
        CHECK.sentence("A message is OPEN and the inner type is not 22: alert 10.");
        for (int stage = 0; stage <= 2; stage++) {
            Counted x = Hand.atStage(stage);
            Hand.pass(x, 0, 22, 9, 2, 1);
            Hand.pass(x, 0, 22, 1);
            CHECK.due("closing", Hand.pass(x, 0, 21, 1, 1), 2);
        }
        Counted y = Hand.atStage(2);
        Hand.pass(y, 0, 22, 9, 0);
        CHECK.due("data", Hand.pass(y, 0, 23, 1), 1);
    }

    private static void openAtOneEndOnly() {
        CHECK.sentence("A message is OPEN and the inner type is not 22: alert 10.");
        Counted x = Hand.atStage(2);
        Hand.pass(x, 0, 22, 9);
        CHECK.due("not open at the sender", x.look(0, 7), 0);
        CHECK.due("which gets data", Hand.pass(x, 1, 23, 4), 1);
        CHECK.due("still open", x.look(1, 7), 1);
    }

    private static void closingOfNotTwoBytes() {
        CHECK.sentence("The inner type is 21 and the content has not exactly two bytes: alert 50.");
        for (int stage = 0; stage <= 2; stage++) {
            for (int bytes = 0; bytes <= 16; bytes++) {
                if (bytes == 2) {
                    CHECK.due("two bytes", Hand.pass(Hand.atStage(stage), 0, 21, 0, 0), 2);
                } else {
                    alertOf(bytes + " bytes", stage, 50, 21, new int[bytes]);
                }
            }
        }
    }

    private static void closingInAMessageComesFirst() {
        CHECK.sentence("the first of these that holds gives the alert");
        for (int stage = 0; stage <= 2; stage++) {
            Counted x = Hand.atStage(stage);
            Hand.pass(x, 0, 22, 9);
            Hand.send(x, 0, 21, 0, 1);
            alert("in a message, and one byte", x, 10);
        }
    }

    private static void wrongTypeComesFirst() {
        CHECK.sentence("the first of these that holds gives the alert");
        Counted x = Hand.atStage(1);
        Hand.pass(x, 0, 22, 9);
        Hand.send(x, 0, 99, 0, 1);
        alert("a wrong type in a message", x, 10);
        alertOf("a wrong type without content", 2, 10, 99);
    }

    private static void emptyContentOfMessages() {
        CHECK.sentence("The inner type is 22 and the content is empty: alert 10.");
        for (int stage = 0; stage <= 2; stage++) {
            alertOf("no content", stage, 10, 22);
            Counted x = Hand.atStage(stage);
            Hand.pass(x, 0, 22, 9);
            Hand.send(x, 0, 22, 0);
            alert("no content in a message", x, 10);
            Counted y = Hand.atStage(stage);
            CHECK.due("one byte", Hand.pass(y, 0, 22, 0), 1);
        }
        Counted z = Hand.atStage(2);
        z.seal(0, 22, 16);
        alert("no content, but padding", z, 10);
    }

    private static void emptyContentOfData() {
        CHECK.sentence("and there is none if none holds");
        Counted x = Hand.atStage(2);
        CHECK.due("data without content", Hand.pass(x, 0, 23), 0);
        CHECK.due("not closed", x.look(1, 6), NONE);
        CHECK.due("item", Hand.oldestItem(x, 1), "23:");
    }

    private static void keyChangeBelowStage2() {
        CHECK.sentence("of the first one that is: alert 10 if the side's stage is not 2");
        for (int stage = 0; stage <= 1; stage++) {
            for (int[] content : new int[][] {{24, 1, 0}, {24, 1, 1}, {24, 0}, {24, 2, 0, 0}, {24, 1, 2}, {9, 0, 24, 1, 1, 9}}) {
                alertOf("a key change", stage, 10, 22, content);
            }
            Counted x = Hand.atStage(stage);
            CHECK.due("not completed yet", Hand.pass(x, 0, 22, 24, 1), 2);
            Hand.send(x, 0, 22, 0, 0);
            alert("completed", x, 10);
        }
        Counted y = Hand.atStage(1);
        y.secret(1, 8);
        y.key(1, true);
        Hand.send(y, 0, 22, 0, 24, 1, 0);
        alert("chain and sending are at stage 2, receiving at 1", y, 10);
        Counted z = Hand.atStage(0);
        for (int end = 0; end < 2; end++) {
            z.secret(end, 7);
            z.secret(end, 8);
            z.key(end, end == 0);
        }
        CHECK.due("receiving is at stage 2, sending at 0", Hand.pass(z, 0, 22, 24, 1, 0), 3);
    }

    private static void keyChangeOfAnotherLength() {
        CHECK.sentence("else 50 if its length is not 1");
        alertOf("length 0", 2, 50, 22, 24, 0);
        for (int length = 2; length <= 14; length++) {
            int[] content = new int[2 + length];
            content[0] = 24;
            content[1] = length;
            alertOf("length " + length, 2, 50, 22, content);
        }
        CHECK.due("length 1", Hand.pass(Hand.atStage(2), 0, 22, 24, 1, 0), 3);
        Counted x = Hand.atStage(2);
        Hand.pass(x, 0, 22, 24, 255);
        for (int i = 0; i < 15; i++) {
            Hand.pass(x, 0, 22, new int[16]);
            x.take(1);
        }
        Hand.pass(x, 0, 22, new int[14]);
        CHECK.due("not completed yet", x.look(1, 6), NONE);
        Hand.send(x, 0, 22, 0, 1);
        alert("length 255", x, 50);
    }

    private static void keyChangeOfAnotherBody() {
        CHECK.sentence("else 47 if its body byte is not 0 or 1");
        for (int body = 0; body <= 255; body++) {
            if (body < 2) {
                CHECK.due("body " + body, Hand.pass(Hand.atStage(2), 0, 22, 24, 1, body), 3);
            } else {
                alertOf("body " + body, 2, 47, 22, 24, 1, body);
            }
        }
        Counted x = Hand.atStage(2);
        Hand.pass(x, 0, 22, 24, 1);
        Hand.send(x, 0, 22, 0, 2);
        alert("body 2, alone in its content", x, 47);
    }

    private static void keyChangeThatIsNotTheLast() {
        CHECK.sentence("else 10 if its last byte is not the last of the content.");
        for (int[] content : new int[][] {{24, 1, 0, 0}, {24, 1, 1, 9}, {24, 1, 0, 9, 0}, {24, 1, 1, 24, 1, 1}, {9, 0, 24, 1, 0, 1}}) {
            alertOf("more behind it", 2, 10, 22, content);
        }
        Counted x = Hand.atStage(2);
        Hand.pass(x, 0, 22, 24);
        Hand.send(x, 0, 22, 0, 1, 0, 0);
        alert("begun in the content before", x, 10);
        CHECK.due("other messages before it", Hand.pass(Hand.atStage(2), 0, 22, 9, 0, 8, 1, 5, 24, 1, 0), 8);
        int[] full = {9, 11, 0, 0, 0, 0, 0, 0, 0, 0, 0, 0, 0, 24, 1, 1};
        CHECK.due("as the last of sixteen bytes", Hand.pass(Hand.atStage(2), 0, 22, full), 16);
    }

    private static void keyChangeAlertsInTheirOrder() {
        CHECK.sentence("of the first one that is: alert 10 if the side's stage is not 2; else 50 if its length is not 1; else 47 if its body byte is not 0 or 1; else 10 if its last byte is not the last of the content.");
        alertOf("stage, length", 1, 10, 22, 24, 0);
        alertOf("stage, body", 1, 10, 22, 24, 1, 9);
        alertOf("length, body", 2, 50, 22, 24, 2, 9, 9);
        alertOf("length, not the last", 2, 50, 22, 24, 0, 0);
        alertOf("length, body, not the last", 2, 50, 22, 24, 2, 9, 9, 0);
        alertOf("body, not the last", 2, 47, 22, 24, 1, 2, 0);
    }

    private static void keyChangeOfTheFirstOne() {
        CHECK.sentence("a KEY CHANGE is completed in the content: of the first one that is");
        alertOf("body, then length", 2, 47, 22, 24, 1, 3, 24, 2, 0, 0);
        alertOf("place, then length", 2, 10, 22, 24, 1, 0, 24, 0);
        alertOf("length, then body", 2, 50, 22, 24, 0, 24, 1, 9);
        alertOf("place, then body", 2, 10, 22, 24, 1, 1, 24, 1, 9);
        alertOf("place, then a right one", 2, 10, 22, 24, 1, 1, 24, 1, 0);
        Counted x = Hand.atStage(2);
        Hand.pass(x, 0, 22, 24, 5, 1, 1, 1, 1);
        Hand.send(x, 0, 22, 0, 1, 24, 1, 0);
        alert("the first one began before", x, 50);
    }

    private static void keyChangeThatIsNotCompleted() {
        CHECK.sentence("The inner type is 22 and a KEY CHANGE is completed in the content");
        for (int stage = 0; stage <= 2; stage++) {
            for (int[] content : new int[][] {{24}, {24, 1}, {24, 2, 9}, {24, 200, 1, 1}, {9, 0, 24, 3, 0, 0}}) {
                Counted x = Hand.atStage(stage);
                CHECK.due("not completed", Hand.pass(x, 0, 22, content), content.length);
                CHECK.due("open", x.look(1, 7), 1);
                CHECK.due("owes", x.look(1, 8), 0);
                CHECK.due("count", x.look(1, 5), stage == 0 ? 0 : 1);
            }
        }
        // 24 1 0 as a content of data is no message
        Counted y = Hand.atStage(2);
        CHECK.due("data", Hand.pass(y, 0, 23, 24, 1, 1, 0), 4);
        CHECK.due("count", y.look(1, 5), 1);
        CHECK.due("owes", y.look(1, 8), 0);
    }

    private static void everyLength() {
        CHECK.sentence("each is a byte for its kind, a byte for its length, and a body of so many bytes.");
        for (int length = 0; length <= 14; length++) {
            for (int came = 1; came <= 16; came++) {
                Counted x = Hand.atStage(1);
                int[] content = new int[came];
                content[0] = 9;
                for (int i = 1; i < came; i++) {
                    content[i] = i == 1 ? length : 255;
                }
                if (came <= 2 + length) {
                    CHECK.due("deliver", Hand.pass(x, 0, 22, content), came);
                    CHECK.due(came + " bytes of a length " + length, x.look(1, 7), came < 2 + length ? 1 : 0);
                }
            }
        }
    }

    private static void longestMessage() {
        CHECK.sentence("and a body of so many bytes.");
        Counted x = Hand.atStage(1);
        int[] body = new int[16];
        java.util.Arrays.fill(body, 24);
        CHECK.due("kind and length 255", Hand.pass(x, 0, 22, 6, 255), 2);
        for (int i = 0; i < 15; i++) {
            CHECK.due("16 of 255", Hand.pass(x, 0, 22, body), 16);
            CHECK.due("open", x.look(1, 7), 1);
            x.take(1);
        }
        CHECK.due("14 more", Hand.pass(x, 0, 22, new int[14]), 14);
        CHECK.due("open", x.look(1, 7), 1);
        CHECK.due("the last", Hand.pass(x, 0, 22, 255), 1);
        CHECK.due("not open", x.look(1, 7), 0);
    }

    private static void openFromTheFirstByteToTheLast() {
        CHECK.sentence("A message is OPEN when at least its first byte but not all of it has come");
        for (int stage = 0; stage <= 2; stage++) {
            Counted x = Hand.atStage(stage);
            CHECK.due("before", x.look(1, 7), 0);
            int[] bytes = {9, 0, 9, 1, 9, 0, 2, 24, 24};
            int[] open = {1, 0, 1, 1, 0, 1, 1, 1, 0};
            for (int i = 0; i < bytes.length; i++) {
                CHECK.due("deliver", Hand.pass(x, 0, 22, bytes[i]), 1);
                CHECK.due("open after byte " + i, x.look(1, 7), open[i]);
            }
        }
    }

    private static void severalMessagesInAContent() {
        CHECK.sentence("are messages");
        int[][] contents = {{9, 0, 9, 0}, {9, 0, 9}, {9, 1, 9, 9, 0}, {9, 1, 9, 9, 1}, {0, 0, 0, 0, 0, 0, 0, 0, 0, 0, 0, 0, 0, 0, 0, 0}, {0, 0, 0}};
        int[] open = {0, 1, 0, 1, 0, 1};
        for (int i = 0; i < contents.length; i++) {
            Counted x = new Counted(100);
            Hand.pass(x, 0, 22, contents[i]);
            CHECK.due("open after content " + i, x.look(1, 7), open[i]);
        }
    }

    private static void oneBehindTheOther() {
        CHECK.sentence("The contents with inner type 22 that an end was delivered, one behind the other, are messages");
        Counted x = Hand.atStage(2);
        Hand.pass(x, 0, 22, 9, 1, 5);
        CHECK.due("data is not among them", Hand.pass(x, 0, 23, 9), 1);
        CHECK.due("open", x.look(1, 7), 0);
        Hand.pass(x, 0, 22, 9, 2);
        CHECK.due("open", x.look(1, 7), 1);
        Hand.pass(x, 1, 22, 8, 0);
        CHECK.due("what the other end got is not among them", x.look(1, 7), 1);
        x.take(1);
        x.take(1);
        x.take(1);
        Hand.pass(x, 0, 22, 1);
        CHECK.due("items that were taken are among them", x.look(1, 7), 1);
        Hand.pass(x, 0, 22, 1);
        CHECK.due("open", x.look(1, 7), 0);
    }

    private static void goesOnBehindOtherRecords() {
        CHECK.sentence("it goes on with the first byte of the next content of type 22.");
        Counted x = Hand.atStage(1);
        Hand.pass(x, 0, 22, 9, 3, 1);
        x.inject(1, 20, 1, 1);
        CHECK.due("an ignored record between", x.deliver(1), SealedRecords.IGNORED);
        Hand.pass(x, 0, 22, 2, 3);
        CHECK.due("complete", x.look(1, 7), 0);
    }

    private static void goesOnWithTheNextContent() {
        CHECK.sentence("it goes on with the first byte of the next content of type 22.");
        Counted x = Hand.atStage(2);
        Hand.pass(x, 0, 22, 9);
        CHECK.due("24 as a length", Hand.pass(x, 0, 22, 24, 1, 1), 3);
        CHECK.due("is no key change", x.look(1, 5), 2);
        Hand.pass(x, 0, 22, 1, 1, 1, 1, 1, 1, 1, 1, 1, 1, 1, 1, 1, 1, 1, 1);
        CHECK.due("18 of 24", x.look(1, 7), 1);
        Hand.pass(x, 0, 22, 1, 1, 1, 1, 1);
        CHECK.due("23 of 24", x.look(1, 7), 1);
        CHECK.due("the last, and a key change", Hand.pass(x, 0, 22, 1, 24, 1, 1), 4);
        CHECK.due("owes", x.look(1, 8), 1);
    }

    private static void completedInTheContentWithTheLastByte() {
        CHECK.sentence("It is COMPLETED in the content that has its last byte.");
        int[][][] ways = {{{24, 1, -1}}, {{24}, {1, -1}}, {{24, 1}, {-1}}, {{24}, {1}, {-1}}, {{9, 0, 24}, {1, -1}}, {{9, 1}, {24, 24, 1, -1}}};
        for (int[][] way : ways) {
            for (int body = 0; body <= 1; body++) {
                Counted x = Hand.atStage(2);
                for (int n = 1; n <= way.length; n++) {
                    int[] content = way[n - 1].clone();
                    boolean last = n == way.length;
                    if (last) {
                        content[content.length - 1] = body;
                    }
                    CHECK.due("deliver", Hand.pass(x, 0, 22, content), content.length);
                    CHECK.due("count", x.look(1, 5), last ? 0 : n);
                    CHECK.due("owes", x.look(1, 8), last ? body : 0);
                }
            }
        }
    }

    private static void keyChangeOfKind24() {
        CHECK.sentence("A KEY CHANGE is a message of kind 24.");
        for (int kind = 0; kind <= 255; kind++) {
            Counted x = Hand.atStage(2);
            CHECK.due("deliver", Hand.pass(x, 0, 22, kind, 1, 1), 3);
            CHECK.due("kind " + kind + ": count", x.look(1, 5), kind == 24 ? 0 : 1);
            CHECK.due("kind " + kind + ": owes", x.look(1, 8), kind == 24 ? 1 : 0);
        }
    }

    private static void kind24InABody() {
        CHECK.sentence("A KEY CHANGE is a message of kind 24.");
        Counted x = Hand.atStage(2);
        CHECK.due("24 1 1 in a body", Hand.pass(x, 0, 22, 23, 3, 24, 1, 1, 25, 1, 24), 8);
        CHECK.due("count", x.look(1, 5), 1);
        CHECK.due("owes", x.look(1, 8), 0);
    }

    private static void newestItem() {
        CHECK.sentence("the inner type and the content become the newest item.");
        for (int end = 0; end < 2; end++) {
            Counted x = Hand.atStage(2);
            Hand.pass(x, 1 - end, 23, 5, 0, 6);
            Hand.pass(x, 1 - end, 22, 9, 0);
            Hand.pass(x, 1 - end, 23);
            Hand.pass(x, 1 - end, 21, 1, 2);
            CHECK.due("items of the other end", x.items(1 - end), 0);
            for (String due : new String[] {"23: 5 0 6", "22: 9 0", "23:", "21: 1 2"}) {
                CHECK.due("item", Hand.oldestItem(x, end), due);
                x.take(end);
            }
        }
    }

    private static void reasonIsTheSecondByte() {
        CHECK.sentence("If the inner type is 21, the receiving is CLOSED with the content's second byte as its REASON.");
        for (int stage = 0; stage <= 2; stage++) {
            for (int reason = 0; reason <= 255; reason++) {
                Counted x = Hand.atStage(stage);
                CHECK.due("closing", Hand.pass(x, 0, 21, 7, reason), 2);
                CHECK.due("reason", x.look(1, 6), reason);
                CHECK.due("its sending is not closed", x.look(1, 3), 0);
                x.inject(1, 20, 1, 1);
                CHECK.due("closed", x.deliver(1), CLOSED);
                CHECK.due("reason stays", x.look(1, 6), reason);
            }
        }
    }

    private static void keyChangeChangesTheSecret() {
        CHECK.sentence("If a KEY CHANGE was completed in it, the secret of the receiving side becomes MIX(secret, 6)");
        for (int end = 0; end < 2; end++) {
            Counted x = Hand.atStage(2);
            long secret = Formulas.receivingSecret(end, 7, 8);
            for (int step = 0; step < 3; step++) {
                Hand.forge(x, end, 23, Formulas.payload(secret, 0, 24, 1, 0, 22));
                CHECK.due("a key change", x.deliver(end), 3);
                secret = Formulas.mix(secret, 6);
            }
            Hand.forge(x, end, 23, Formulas.payload(secret, 0, 40, 23));
            CHECK.due("with the new secret", x.deliver(end), 1);
            Counted y = Hand.atStage(2);
            Hand.pass(y, 1 - end, 22, 24, 1, 0);
            Hand.send(y, 1 - end, 23, 0, 41);
            Hand.alert(CHECK, "with the old secret", y, end, 20);
            Counted z = Hand.atStage(2);
            Hand.pass(z, 1 - end, 22, 24, 1, 0);
            z.advance(1 - end);
            CHECK.due("with an advanced one", Hand.pass(z, 1 - end, 23, 41), 1);
        }
    }

    private static void keyChangeSetsTheCountBack() {
        CHECK.sentence("its count 0");
        Counted x = Hand.atStage(2);
        for (int i = 0; i < 4; i++) {
            Hand.pass(x, 0, 23, i);
        }
        CHECK.due("count", x.look(1, 5), 4);
        Hand.pass(x, 0, 22, 24, 1, 0);
        CHECK.due("count", x.look(1, 5), 0);
    }

    private static void keyChangeOwes() {
        CHECK.sentence("and if the body byte is 1, the end OWES a change");
        Counted x = Hand.atStage(2);
        Hand.pass(x, 0, 22, 24, 1, 0);
        CHECK.due("body 0", x.look(1, 8), 0);
        x.advance(0);
        Hand.pass(x, 0, 22, 24, 1, 1);
        CHECK.due("body 1", x.look(1, 8), 1);
        CHECK.due("not the sender", x.look(0, 8), 0);
    }

    private static void goesOnOwing() {
        CHECK.sentence("(and goes on owing if it did already)");
        Counted x = Hand.atStage(2);
        for (int body : new int[] {1, 0, 1, 0, 0}) {
            CHECK.due("deliver", Hand.pass(x, 0, 22, 24, 1, body), 3);
            x.advance(0);
            CHECK.due("owes", x.look(1, 8), 1);
        }
        x.advance(1);
        Hand.pass(x, 0, 22, 24, 1, 0);
        CHECK.due("paid", x.look(1, 8), 0);
    }

    private static void keyChangeLeavesTheSending() {
        CHECK.sentence("the secret of the receiving side becomes MIX(secret, 6)");
        Counted x = Hand.atStage(2);
        Hand.pass(x, 1, 23, 3);
        Hand.pass(x, 0, 22, 24, 1, 1);
        CHECK.due("the receiver's looks", Hand.looks(x, 1), "2 2 1 0 2 0 -1 0 1 0");
        CHECK.due("the sender's looks", Hand.looks(x, 0), "2 2 1 0 2 1 -1 0 0 0");
        CHECK.due("the receiver's sending", Hand.pass(x, 1, 23, 4), 1);
    }

    private static void alertCloses() {
        CHECK.sentence("An ALERT a: the receiving is CLOSED with the REASON 256 + a");
        int[] alerts = {10, 20, 22, 47, 50};
        for (int a : alerts) {
            Counted x = Hand.atStage(2);
            raise(x, a);
            alert("alert " + a, x, a);
            Hand.send(x, 0, 23, 0, 5);
            CHECK.due("closed", x.deliver(1), CLOSED);
            CHECK.due("the reason stays", x.look(1, 6), 256 + a);
            CHECK.due("the other end's receiving", Hand.pass(x, 1, 23, 4), 1);
        }
    }

    /** Puts a record on the wire to end 1, at stage 2, that gives the alert. */
    private static void raise(Counted x, int a) {
        switch (a) {
            case 10:
                x.inject(1, 0, 0, 0);
                break;
            case 20:
                x.inject(1, 23, 0, 0);
                break;
            case 22:
                x.inject(1, 23, 26, 0);
                break;
            case 47:
                Hand.send(x, 0, 22, 0, 24, 1, 2);
                break;
            default:
                Hand.send(x, 0, 22, 0, 24, 0);
        }
    }

    private static void alertDeliversNothing() {
        CHECK.sentence("nothing is delivered");
        for (int a : new int[] {10, 20, 22, 47, 50}) {
            Counted x = Hand.atStage(2);
            Hand.pass(x, 0, 23, 77);
            raise(x, a);
            alert("alert " + a, x, a);
            CHECK.due("the only item", Hand.oldestItem(x, 1), "23: 77");
        }
        Counted y = Hand.atStage(2);
        Hand.send(y, 0, 22, 0, 24, 1, 1, 0);
        alert("a key change that is not the last", y, 10);
        CHECK.due("owes nothing, and the count grew", Hand.looks(y, 1), "2 2 0 0 2 1 266 0 0 0");
    }

    private static void alertLeavesMessages() {
        CHECK.sentence("and messages stay as they were.");
        Counted x = Hand.atStage(2);
        Hand.send(x, 0, 22, 0, 24, 0, 9);
        alert("the rest would be open", x, 50);
        CHECK.due("but is not", x.look(1, 7), 0);
        Counted y = Hand.atStage(2);
        Hand.pass(y, 0, 22, 24);
        Hand.send(y, 0, 22, 0, 1, 7);
        alert("the message would be complete", y, 47);
        CHECK.due("but is open", Hand.looks(y, 1), "2 2 0 0 2 2 303 1 0 0");
    }
}
