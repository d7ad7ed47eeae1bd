import java.util.Map;
import java.util.Random;
import java.util.TreeMap;

/** Runs of calls drawn with fixed seeds: the program answers each call as the model does. */
public final class RandomRunsTest {
    private static final int RUNS = 12000;
    /** More than a step and the looks at the end need. */
    private static final int LAST_CALLS = 60;
    private static final int[] ODD = {-1, 0, 1, 2, 12, 16, 40, 41, 255, 256, -2, -3, Integer.MIN_VALUE, Integer.MAX_VALUE};
    private static final int[] BYTES = {0, 1, 1, 0, 2, 3, 24, 24, 21, 22, 23, 255};
    private static final int[] TYPES = {22, 22, 22, 22, 23, 23, 23, 23, 21, 0, 20, 24};
    private static final int[] LIMITS = {100, 3, 0, 12, 1000, 1, -7};

    private static final Check CHECK = new Check();
    /** How often deliver and seal gave each answer, to see that the runs get everywhere. */
    private static final Map<String, Integer> SEEN = new TreeMap<>();

    private final Random random;
    private final Counted x;
    private final Model model;
    private final boolean tamper;
    /** Nothing but data and whole messages, and nothing taken: such a run fills the items and the wires. */
    private final boolean calm;

    private RandomRunsTest(long seed) {
        random = new Random(seed);
        int limit = LIMITS[random.nextInt(LIMITS.length)];
        x = new Counted(limit);
        model = new Model(limit);
        calm = random.nextInt(4) == 0;
        tamper = !calm && random.nextInt(3) == 0;
    }

    public static void main(String[] args) {
        for (int seed = 0; seed < RUNS; seed++) {
            new RandomRunsTest(seed).run();
        }
        for (String answer : new String[] {"0", "2", "16", "100", "266", "276", "278", "303", "306", "-1", "-2", "-3"}) {
            CHECK.yes("deliver answered " + answer, SEEN.getOrDefault("deliver " + answer, 0) >= 10);
        }
        for (String answer : new String[] {"0", "16", "9", "25", "-1", "-2", "-3", "-4", "-5"}) {
            CHECK.yes("seal answered " + answer, SEEN.getOrDefault("seal " + answer, 0) >= 10);
        }
        for (String answer : new String[] {"1", "2", "266", "-1", "-2", "-4"}) {
            CHECK.yes("key answered " + answer, SEEN.getOrDefault("key " + answer, 0) >= 10);
        }
        CHECK.finish();
    }

    private void run() {
        int stage = random.nextInt(4);
        for (int s = 1; s <= Math.min(stage, 2); s++) {
            shareSecret(s);
        }
        int afterwards = 0;
        while (x.calls() < Counted.MOST_CALLS - LAST_CALLS && afterwards < 30) {
            step();
            // little happens once both ends receive no more
            afterwards += model.look(0, 6) >= 0 && model.look(1, 6) >= 0 ? 1 : 0;
        }
        for (int end = 0; end < 2; end++) {
            for (int what = 0; what < 10; what++) {
                same("look", x.look(end, what), model.look(end, what));
            }
            same("items", x.items(end), model.items(end));
            same("waiting", x.waiting(end), model.waiting(end));
        }
    }

    private void same(String call, int got, int want) {
        SEEN.merge(call + " " + want, 1, Integer::sum);
        CHECK.due(call + " (call " + x.calls() + ")", got, want);
    }

    private void same(String call, boolean got, boolean want) {
        same(call, got ? 1 : 0, want ? 1 : 0);
    }

    private void shareSecret(long s) {
        for (int end = 0; end < 2; end++) {
            same("secret", x.secret(end, s), model.secret(end, s));
            same("key", x.key(end, true), model.key(end, true));
            same("key", x.key(end, false), model.key(end, false));
        }
    }

    private int end() {
        return random.nextInt(60) == 0 ? pick(ODD) : random.nextInt(2);
    }

    private int pick(int[] from) {
        return from[random.nextInt(from.length)];
    }

    private int near(int most) {
        return random.nextInt(30) == 0 ? pick(ODD) : random.nextInt(most + 1);
    }

    private void step() {
        int draw = random.nextInt(100);
        if (draw < 30 && calm) {
            sendCalmly();
        } else if (draw < 30) {
            send();
        } else if (draw < 55) {
            int end = end();
            same("deliver", x.deliver(end), model.deliver(end));
        } else if (draw < 72 && calm) {
            look();
        } else if (draw < 63) {
            int end = end();
            same("take", x.take(end), model.take(end));
        } else if (draw < 68) {
            keys();
        } else if (draw < 72 || tamper && draw < 82) {
            tamper();
        } else {
            look();
        }
    }

    private void sendCalmly() {
        int end = end();
        boolean data = model.look(end, 1) == 2 && random.nextBoolean();
        int body = random.nextInt(4);
        write(end, random.nextInt(20));
        write(end, body);
        for (int i = 0; i < body; i++) {
            write(end, random.nextInt(256));
        }
        same("seal", x.seal(end, data ? 23 : 22, 0), model.seal(end, data ? 23 : 22, 0));
    }

    /** Mostly whole sendings, since single random calls seldom make one that gets through. */
    private void send() {
        int end = end();
        int type = random.nextInt(60) == 0 ? pick(ODD) : random.nextInt(9) == 0 ? pick(TYPES) : likelyType(end);
        int bytes = type == 21 ? random.nextInt(8) == 0 ? random.nextInt(17) : 2 : random.nextInt(5);
        if (random.nextInt(12) == 0) {
            bytes = 16 + random.nextInt(2);
        }
        boolean change = type == 22 && random.nextInt(3) == 0;
        if (change) {
            write(end, 24);
            write(end, random.nextInt(8) == 0 ? near(3) : 1);
            write(end, random.nextInt(8) == 0 ? near(3) : random.nextInt(2));
        }
        for (int i = 0; i < (change && random.nextInt(4) != 0 ? 0 : bytes); i++) {
            write(end, random.nextInt(40) == 0 ? pick(ODD) : pick(BYTES));
        }
        boolean plain = model.look(end, 1) == 0;
        int padding = plain && random.nextInt(10) != 0 ? 0 : random.nextInt(6) == 0 ? near(17) : random.nextInt(3);
        if (random.nextInt(8) == 0 && !plain) {
            padding = 16 - model.look(end, 9);
        }
        same("seal", x.seal(end, type, padding), model.seal(end, type, padding));
        if (change && random.nextInt(5) != 0) {
            same("advance", x.advance(end), model.advance(end));
        }
    }

    /** A type that the other end, as it is now, would not answer with an alert. */
    private int likelyType(int end) {
        boolean data = model.look(end, 1) == 2 && model.look(1 - end, 7) == 0;
        return data && random.nextBoolean() ? 23 : 22;
    }

    private void write(int end, int b) {
        same("write", x.write(end, b), model.write(end, b));
    }

    private void keys() {
        int end = end();
        if (random.nextInt(3) == 0) {
            shareSecret(random.nextLong());
        } else if (random.nextInt(2) == 0) {
            boolean sending = random.nextBoolean();
            same("key", x.key(end, sending), model.key(end, sending));
        } else if (random.nextInt(6) == 0) {
            same("advance", x.advance(end), model.advance(end));
        } else if (random.nextInt(6) == 0) {
            long s = random.nextLong();
            same("secret", x.secret(end, s), model.secret(end, s));
        }
    }

    private void tamper() {
        int end = end();
        int k = random.nextInt(10) == 0 ? near(12) : random.nextInt(3);
        switch (random.nextInt(7)) {
            case 0: {
                int i = near(20);
                int v = near(255);
                same("alter", x.alter(end, k, i, v), model.alter(end, k, i, v));
                break;
            }
            case 1:
                same("cut", x.cut(end, k), model.cut(end, k));
                break;
            case 2:
                same("lose", x.lose(end, k), model.lose(end, k));
                break;
            case 3:
                same("copy", x.copy(end, k), model.copy(end, k));
                break;
            case 4:
                same("swap", x.swap(end, k), model.swap(end, k));
                break;
            default: {
                boolean mark = random.nextInt(3) != 0;
                int type = mark ? 20 : random.nextInt(30) == 0 ? pick(ODD) : pick(TYPES);
                int n = mark ? 1 : near(40);
                int b = mark ? 1 : near(255);
                same("inject", x.inject(end, type, n, b), model.inject(end, type, n, b));
            }
        }
    }

    private void look() {
        int end = end();
        int k = near(5);
        int i = near(26) - 2;
        switch (random.nextInt(5)) {
            case 0:
                same("wire", x.wire(end, k, i), model.wire(end, k, i));
                break;
            case 1:
                same("item", x.item(end, i), model.item(end, i));
                break;
            case 2:
                same("items", x.items(end), model.items(end));
                break;
            case 3:
                same("waiting", x.waiting(end), model.waiting(end));
                break;
            default: {
                int what = near(9);
                same("look", x.look(end, what), model.look(end, what));
            }
        }
    }
}
