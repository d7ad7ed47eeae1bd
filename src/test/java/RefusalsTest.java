import java.util.function.Predicate;
import java.util.function.Supplier;
import java.util.function.ToIntFunction;

/** All promises: a refused call changes nothing, and answers the refusal that its comment names first. */
public final class RefusalsTest {
    private static final Check CHECK = new Check();
    private static final String NOTHING = "A call that answers a number below 0 (other than deliver's CLOSED) or false changes nothing";
    private static final String FIRST = "where several of its refusals hold, the one that its comment names first is answered.";
    private static final int BAD = SealedRecords.BAD;
    private static final int CLOSED = SealedRecords.CLOSED;
    private static final int EXHAUSTED = SealedRecords.EXHAUSTED;
    private static final int FULL = SealedRecords.FULL;
    private static final int NONE = SealedRecords.NONE;

    public static void main(String[] args) {
        changesNothingWithoutAnEnd();
        changesNothingByArguments();
        changesNothingInKeys();
        changesNothingInADraft();
        changesNothingInSealing();
        changesNothingInDelivering();
        changesNothingOnAWire();
        changesNothingOnAFullWire();
        changesNothingAmongItems();
        sealAnswersNoneFirst();
        sealAnswersClosedBeforeTheRest();
        sealAnswersBadBeforeTheRest();
        sealAnswersExhaustedBeforeFull();
        keyAnswersClosedBeforeTheRest();
        keyAnswersBadBeforeTheAlert();
        deliverAnswersNoneBeforeTheRest();
        deliverAnswersClosedBeforeFull();
        CHECK.finish();
    }

    /** Beside an object to which the call was not made, nothing tells the one that refused it. */
    private static void refused(String what, Supplier<Counted> state, ToIntFunction<Counted> call, int due) {
        Counted x = state.get();
        CHECK.due(what, call.applyAsInt(x), due);
        CHECK.due(what + " changes nothing", Hand.future(x), Hand.future(state.get()));
    }

    private static void denied(String what, Supplier<Counted> state, Predicate<Counted> call) {
        refused(what, state, x -> call.test(x) ? 1 : 0, 0);
    }

    /** Drafts, items, and records that will be delivered; end 1 is in the midst of a message and, at stage 2, owes. */
    private static Counted busy(int stage) {
        Counted x = Hand.atStage(stage);
        Hand.pass(x, 1, 22, 5, 0);
        Hand.pass(x, 0, 22, 6, 0);
        if (stage == 2) {
            Hand.pass(x, 0, 22, 24, 1, 1);
            x.advance(0);
        }
        Hand.pass(x, 0, 22, 9, 3, 1);
        Hand.send(x, 0, 22, 0, 2);
        Hand.send(x, 0, 22, 0, 3, 7, 0);
        Hand.send(x, 1, 22, 0, 4, 0);
        Hand.write(x, 0, 11, 12);
        Hand.write(x, 1, 13);
        return x;
    }

    private static Counted closedSending(int stage) {
        Counted x = busy(stage);
        x.seal(0, 21, 0);
        x.write(0, 14);
        return x;
    }

    private static Counted closedReceiving(int stage) {
        Counted x = busy(stage);
        x.inject(1, 0, 0, 0);
        x.swap(1, 1);
        x.swap(1, 0);
        x.deliver(1);
        return x;
    }

    private static void changesNothingWithoutAnEnd() {
        CHECK.sentence(NOTHING);
        for (int stage = 0; stage <= 2; stage++) {
            int s = stage;
            Supplier<Counted> state = () -> busy(s);
            for (int end : Hand.NO_ENDS) {
                denied("secret", state, x -> x.secret(end, 3));
                refused("key", state, x -> x.key(end, true), NONE);
                refused("key", state, x -> x.key(end, false), NONE);
                denied("advance", state, x -> x.advance(end));
                denied("write", state, x -> x.write(end, 3));
                refused("seal", state, x -> x.seal(end, 21, 0), NONE);
                refused("deliver", state, x -> x.deliver(end), NONE);
                denied("alter", state, x -> x.alter(end, 0, 0, 1));
                denied("cut", state, x -> x.cut(end, 0));
                denied("lose", state, x -> x.lose(end, 0));
                denied("copy", state, x -> x.copy(end, 0));
                denied("swap", state, x -> x.swap(end, 0));
                denied("inject", state, x -> x.inject(end, 22, 2, 0));
                refused("waiting", state, x -> x.waiting(end), NONE);
                refused("wire", state, x -> x.wire(end, 0, -1), NONE);
                refused("items", state, x -> x.items(end), NONE);
                refused("item", state, x -> x.item(end, -1), NONE);
                denied("take", state, x -> x.take(end));
                refused("look", state, x -> x.look(end, 0), NONE);
            }
        }
    }

    private static void changesNothingByArguments() {
        CHECK.sentence(NOTHING);
        Supplier<Counted> state = () -> busy(2);
        for (int b : Hand.NO_BYTES) {
            denied("write " + b, state, x -> x.write(0, b));
            refused("seal type " + b, state, x -> x.seal(0, b, 0), BAD);
            denied("alter by " + b, state, x -> x.alter(1, 0, 0, b));
            denied("inject type " + b, state, x -> x.inject(1, b, 2, 0));
            denied("inject of " + b, state, x -> x.inject(1, 22, 2, b));
        }
        denied("alter by 0", state, x -> x.alter(1, 0, 0, 0));
        for (int far : new int[] {-1, 41, Integer.MIN_VALUE, Integer.MAX_VALUE}) {
            refused("seal padding " + far, state, x -> x.seal(0, 22, far), BAD);
            denied("alter record " + far, state, x -> x.alter(1, far, 0, 1));
            denied("alter byte " + far, state, x -> x.alter(1, 0, far, 1));
            denied("cut " + far, state, x -> x.cut(1, far));
            denied("lose " + far, state, x -> x.lose(1, far));
            denied("copy " + far, state, x -> x.copy(1, far));
            denied("swap " + far, state, x -> x.swap(1, far));
            denied("inject " + far, state, x -> x.inject(1, 22, far, 0));
            refused("wire record " + far, state, x -> x.wire(1, far, 0), NONE);
            refused("wire byte " + (far - 1), state, x -> x.wire(1, 0, far - 1), NONE);
            refused("item " + (far - 2), state, x -> x.item(1, far - 2), NONE);
            refused("look " + far, state, x -> x.look(1, far), NONE);
        }
    }

    private static void changesNothingInKeys() {
        CHECK.sentence(NOTHING);
        for (int stage = 0; stage <= 2; stage++) {
            int s = stage;
            for (int end = 0; end < 2; end++) {
                int e = end;
                refused("key of the stage that is", () -> busy(s), x -> x.key(e, true), BAD);
                refused("key of the stage that is", () -> busy(s), x -> x.key(e, false), BAD);
                if (s < 2) {
                    denied("advance", () -> busy(s), x -> x.advance(e));
                } else {
                    denied("secret", () -> busy(s), x -> x.secret(e, 3));
                }
            }
            refused("key of a closed sending side", () -> closedSending(s), x -> x.key(0, true), CLOSED);
            refused("key of a closed receiving side", () -> closedReceiving(s), x -> x.key(1, false), CLOSED);
            denied("advance of a closed side", () -> closedSending(s), x -> x.advance(0));
        }
        denied("secret behind the second", RefusalsTest::notYetKeyed, x -> x.secret(0, 3));
        refused("key of a closed sending side", () -> withNewStage(closedSending(1)), x -> x.key(0, true), CLOSED);
        refused("key of a closed receiving side", () -> withNewStage(closedReceiving(1)), x -> x.key(1, false), CLOSED);
        // what end 1 owes would be paid
        denied("advance of a closed side that owes", RefusalsTest::closedThatOwes, x -> x.advance(1));
    }

    /** Only what future does with the chain tells a third secret here. */
    private static Counted notYetKeyed() {
        Counted x = new Counted(100);
        x.secret(0, 1);
        x.secret(0, 2);
        return x;
    }

    private static Counted withNewStage(Counted x) {
        x.secret(0, 8);
        x.secret(1, 8);
        return x;
    }

    private static Counted closedThatOwes() {
        Counted x = busy(2);
        x.seal(1, 21, 0);
        return x;
    }

    private static Counted fullDraft(int stage) {
        Counted x = busy(stage);
        Hand.write(x, 0, 1, 2, 3, 4, 5, 6, 7, 8, 9, 10, 11, 12, 13, 14);
        return x;
    }

    private static void changesNothingInADraft() {
        CHECK.sentence(NOTHING);
        for (int stage = 0; stage <= 2; stage++) {
            int s = stage;
            denied("write to a full draft", () -> fullDraft(s), x -> x.write(0, 15));
            refused("seal with too much padding", () -> fullDraft(s), x -> x.seal(0, 22, 1), BAD);
            refused("seal with too little padding", () -> fullDraft(s), x -> x.seal(0, 22, -1), BAD);
        }
    }

    private static Counted fullWire(int stage) {
        Counted x = Hand.atStage(stage);
        Hand.inject(x, 1, 12);
        Hand.write(x, 0, 11, 12);
        return x;
    }

    private static Counted exhausted(int stage) {
        Counted x = Hand.keyed(2, Hand.secrets(stage));
        Hand.send(x, 0, 22, 0, 9, 0);
        Hand.send(x, 0, 22, 0, 9, 1);
        Hand.write(x, 0, 11, 12);
        return x;
    }

    private static void changesNothingInSealing() {
        CHECK.sentence(NOTHING);
        for (int stage = 0; stage <= 2; stage++) {
            int s = stage;
            for (int type : new int[] {21, 22, 23}) {
                refused("seal when closed", () -> closedSending(s), x -> x.seal(0, type, 0), CLOSED);
                refused("seal with bad padding", () -> busy(s), x -> x.seal(0, type, 15), BAD);
                refused("seal at the limit", () -> exhausted(s), x -> x.seal(0, type, 0), EXHAUSTED);
                refused("seal onto a full wire", () -> fullWire(s), x -> x.seal(0, type, 0), FULL);
            }
        }
        refused("seal with padding at stage 0", () -> busy(0), x -> x.seal(0, 21, 1), BAD);
    }

    /** End 1 has 16 items, and no record waits for it. */
    private static Counted fullOfItems(int stage) {
        Counted x = Hand.atStage(stage);
        for (int i = 0; i < 16; i++) {
            Hand.pass(x, 0, 22, i, 0);
        }
        return x;
    }

    private static Counted fullOfItems(int stage, int type, int... content) {
        Counted x = fullOfItems(stage);
        Hand.send(x, 0, type, 0, content);
        return x;
    }

    private static void changesNothingInDelivering() {
        CHECK.sentence(NOTHING);
        for (int stage = 0; stage <= 2; stage++) {
            int s = stage;
            refused("deliver of no record", () -> fullOfItems(s), x -> x.deliver(1), NONE);
            refused("deliver of data", () -> fullOfItems(s, 23, 1), x -> x.deliver(1), FULL);
            refused("deliver of closing", () -> fullOfItems(s, 21, 1, 2), x -> x.deliver(1), FULL);
            refused("deliver of half a message", () -> fullOfItems(s, 22, 9), x -> x.deliver(1), FULL);
            refused("deliver of a key change", () -> fullOfItems(s, 22, 24, 1, 1), x -> x.deliver(1), FULL);
            refused("deliver of a wrong type", () -> fullOfItems(s, 99), x -> x.deliver(1), FULL);
        }
        refused("deliver of what is to be ignored", () -> fullOfItems(0, 20, 1), x -> x.deliver(1), FULL);
        refused("deliver to a closed end of no record", RefusalsTest::closedAndNothingWaits, x -> x.deliver(1), NONE);
    }

    private static Counted closedAndNothingWaits() {
        Counted x = new Counted(100);
        Hand.pass(x, 0, 21, 1, 2);
        return x;
    }

    private static Counted withAnEmptyRecord() {
        Counted x = busy(1);
        x.inject(1, 20, 0, 0);
        return x;
    }

    private static void changesNothingOnAWire() {
        CHECK.sentence(NOTHING);
        Supplier<Counted> state = RefusalsTest::withAnEmptyRecord;
        denied("alter no record", state, x -> x.alter(1, 3, 0, 1));
        denied("alter no byte", state, x -> x.alter(1, 2, 1, 1));
        denied("cut what is empty", state, x -> x.cut(1, 2));
        denied("cut no record", state, x -> x.cut(1, 3));
        denied("lose no record", state, x -> x.lose(1, 3));
        denied("copy no record", state, x -> x.copy(1, 3));
        denied("swap the last", state, x -> x.swap(1, 2));
        Supplier<Counted> empty = () -> new Counted(100);
        denied("alter", empty, x -> x.alter(1, 0, 0, 1));
        denied("cut", empty, x -> x.cut(1, 0));
        denied("lose", empty, x -> x.lose(1, 0));
        denied("copy", empty, x -> x.copy(1, 0));
        denied("swap", empty, x -> x.swap(1, 0));
    }

    private static void changesNothingOnAFullWire() {
        CHECK.sentence(NOTHING);
        Supplier<Counted> state = () -> fullWire(1);
        denied("copy", state, x -> x.copy(1, 0));
        denied("inject", state, x -> x.inject(1, 22, 3, 3));
        denied("inject nothing", state, x -> x.inject(1, 22, 0, 0));
        denied("swap the last", state, x -> x.swap(1, 11));
        denied("lose a thirteenth", state, x -> x.lose(1, 12));
    }

    private static void changesNothingAmongItems() {
        CHECK.sentence(NOTHING);
        denied("take of no item", () -> new Counted(100), x -> x.take(0));
        refused("item of no item", () -> new Counted(100), x -> x.item(0, -1), NONE);
        refused("item of no byte", () -> busy(2), x -> x.item(1, 2), NONE);
        refused("reason when not closed", () -> busy(2), x -> x.look(1, 6), NONE);
    }

    private static void sealAnswersNoneFirst() {
        CHECK.sentence(FIRST);
        Counted x = fullWire(0);
        for (int end : Hand.NO_ENDS) {
            CHECK.due("no end, and a bad type", x.seal(end, 256, 0), NONE);
            CHECK.due("no end, and bad padding", x.seal(end, 22, -1), NONE);
        }
    }

    private static void sealAnswersClosedBeforeTheRest() {
        CHECK.sentence(FIRST);
        Counted x = new Counted(12);
        for (int i = 0; i < 11; i++) {
            x.seal(0, 22, 0);
        }
        x.seal(0, 21, 0);
        CHECK.due("count", x.look(0, 2), 12);
        CHECK.due("closed, at the limit, and a full wire", x.seal(0, 22, 0), CLOSED);
        CHECK.due("and a bad type", x.seal(0, -1, 0), CLOSED);
        CHECK.due("and bad padding", x.seal(0, 22, -1), CLOSED);
        CHECK.due("and padding at stage 0", x.seal(0, 22, 1), CLOSED);
        x.lose(1, 0);
        CHECK.due("closed, and at the limit", x.seal(0, 22, 0), CLOSED);
        Counted y = closedSending(1);
        CHECK.due("closed, and too much padding", y.seal(0, 22, 17), CLOSED);
        Hand.inject(y, 1, 12);
        CHECK.due("closed, and a full wire", y.seal(0, 22, 0), CLOSED);
    }

    private static void sealAnswersBadBeforeTheRest() {
        CHECK.sentence(FIRST);
        for (int stage = 0; stage <= 2; stage++) {
            for (int bad = 0; bad < 4; bad++) {
                int type = bad == 0 ? 256 : bad == 1 ? -1 : 22;
                int padding = bad == 2 ? -1 : bad == 3 ? 15 : 0;
                Counted x = exhausted(stage);
                CHECK.due("bad, and at the limit", x.seal(0, type, padding), BAD);
                Hand.inject(x, 1, 10);
                CHECK.due("bad, at the limit, and a full wire", x.seal(0, type, padding), BAD);
                CHECK.due("bad, and a full wire", fullWire(stage).seal(0, type, padding), BAD);
            }
        }
        CHECK.due("padding at stage 0, and at the limit", exhausted(0).seal(0, 22, 1), BAD);
        CHECK.due("padding at stage 0, and a full wire", fullWire(0).seal(0, 22, 1), BAD);
    }

    private static void sealAnswersExhaustedBeforeFull() {
        CHECK.sentence(FIRST);
        for (int stage = 0; stage <= 2; stage++) {
            Counted x = exhausted(stage);
            Hand.inject(x, 1, 10);
            CHECK.due("waiting", x.waiting(1), 12);
            CHECK.due("at the limit, and a full wire", x.seal(0, 22, 0), EXHAUSTED);
            x.lose(1, 0);
            CHECK.due("at the limit", x.seal(0, 22, 0), EXHAUSTED);
        }
    }

    private static void keyAnswersClosedBeforeTheRest() {
        CHECK.sentence(FIRST);
        for (int stage = 0; stage <= 2; stage++) {
            CHECK.due("closed, and the stage that is", closedSending(stage).key(0, true), CLOSED);
            Counted x = closedReceiving(stage);
            CHECK.due("a message is open", x.look(1, 7), 1);
            CHECK.due("closed, the stage that is, and open", x.key(1, false), CLOSED);
            Counted y = Hand.atStage(stage);
            Hand.pass(y, 0, 21, 1, 2);
            CHECK.due("closed, and the stage that is", y.key(1, false), CLOSED);
        }
        Counted z = withNewStage(closedReceiving(1));
        CHECK.due("closed, and open", z.key(1, false), CLOSED);
        CHECK.due("the reason stays", z.look(1, 6), 266);
    }

    private static void keyAnswersBadBeforeTheAlert() {
        CHECK.sentence(FIRST);
        for (int stage = 0; stage <= 2; stage++) {
            Counted x = busy(stage);
            CHECK.due("a message is open", x.look(1, 7), 1);
            CHECK.due("the stage that is, and open", x.key(1, false), BAD);
            CHECK.due("not closed", x.look(1, 6), NONE);
        }
    }

    private static void deliverAnswersNoneBeforeTheRest() {
        CHECK.sentence(FIRST);
        CHECK.due("no record, and closed", closedAndNothingWaits().deliver(1), NONE);
        CHECK.due("no record, and full", fullOfItems(1).deliver(1), NONE);
        Counted x = fullAndClosed();
        CHECK.due("no record, closed, and full", x.deliver(1), NONE);
    }

    private static Counted fullAndClosed() {
        Counted x = new Counted(100);
        for (int i = 0; i < 15; i++) {
            Hand.pass(x, 0, 22, i, 0);
        }
        Hand.pass(x, 0, 21, 1, 2);
        CHECK.due("items", x.items(1), 16);
        return x;
    }

    private static void deliverAnswersClosedBeforeFull() {
        CHECK.sentence(FIRST);
        Counted x = fullAndClosed();
        x.inject(1, 20, 1, 1);
        x.inject(1, 22, 2, 0);
        CHECK.due("closed, and full", x.deliver(1), CLOSED);
        CHECK.due("the record is off", Hand.wire(x, 1), "[22: 0 0]");
        CHECK.due("items", x.items(1), 16);
        CHECK.due("reason", x.look(1, 6), 2);
    }
}
