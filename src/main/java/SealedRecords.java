/** Two ends that exchange sealed records over wires which anybody may tamper with. */
public final class SealedRecords {
    public static final int NONE = -1;
    public static final int CLOSED = -2;
    public static final int FULL = -3;
    public static final int BAD = -4;
    public static final int EXHAUSTED = -5;
    public static final int IGNORED = 100;

    private static final int HIGHEST_LIMIT = 1000;
    private static final int USUAL_LIMIT = 100;
    private static final int LAST_STAGE = 2;

    private static final int MOST_CONTENT = 16;
    private static final int MOST_INNER = MOST_CONTENT + 1;
    private static final int TAG_BYTES = 8;
    private static final int MOST_PAYLOAD = 40;
    private static final int MOST_RECORDS = 12;
    private static final int MOST_ITEMS = 16;

    private static final int TYPE_IGNORABLE = 20;
    private static final int TYPE_CLOSING = 21;
    private static final int TYPE_MESSAGES = 22;
    private static final int TYPE_DATA = 23;
    private static final int TYPE_SEALED = 23;
    private static final int KEY_CHANGE = 24;

    private static final int NO_ALERT = 0;
    private static final int ALERT_UNEXPECTED = 10;
    private static final int ALERT_WRONG_TAG = 20;
    private static final int ALERT_TOO_LONG = 22;
    private static final int ALERT_ILLEGAL = 47;
    private static final int ALERT_MISSHAPEN = 50;
    private static final int ALERT_BASE = 256;

    private static final int LABEL_MASK = 1;
    private static final int LABEL_TAG = 2;
    private static final int LABEL_CHAIN = 3;
    private static final int LABEL_SENDING = 4;
    private static final int LABEL_RECEIVING = 5;
    private static final int LABEL_CHANGE = 6;

    private final int limit;
    private final End[] ends;

    public SealedRecords(int limit) {
        this.limit = limit >= 1 && limit <= HIGHEST_LIMIT ? limit : USUAL_LIMIT;
        this.ends = new End[] {new End(0), new End(1)};
    }

    public boolean secret(int end, long s) {
        if (!isEnd(end) || ends[end].chainStage == LAST_STAGE) {
            return false;
        }
        End e = ends[end];
        e.chain = mix(mix(e.chain, LABEL_CHAIN), s);
        e.chainStage++;
        return true;
    }

    public int key(int end, boolean sending) {
        if (!isEnd(end)) {
            return NONE;
        }
        End e = ends[end];
        Side side = sending ? e.sending : e.receiving;
        if (side.closed) {
            return CLOSED;
        }
        if (side.stage == e.chainStage) {
            return BAD;
        }
        if (!sending && e.messages.isOpen()) {
            return e.raiseAlert(ALERT_UNEXPECTED);
        }
        side.stage = e.chainStage;
        side.useSecret(sending ? e.sendingSecret() : e.receivingSecret());
        return side.stage;
    }

    public boolean advance(int end) {
        if (!isEnd(end)) {
            return false;
        }
        End e = ends[end];
        if (e.sending.stage != LAST_STAGE || e.sending.closed) {
            return false;
        }
        e.sending.changeSecret();
        e.owesChange = false;
        return true;
    }

    public boolean write(int end, int b) {
        if (!isEnd(end) || !isByte(b) || ends[end].draft.isFull()) {
            return false;
        }
        ends[end].draft.append(b);
        return true;
    }

    public int seal(int end, int type, int padding) {
        if (!isEnd(end)) {
            return NONE;
        }
        End e = ends[end];
        if (e.sending.closed) {
            return CLOSED;
        }
        if (!isByte(type) || !e.allowsPadding(padding)) {
            return BAD;
        }
        if (e.sending.count == limit) {
            return EXHAUSTED;
        }
        Row wire = ends[1 - end].arriving;
        if (wire.isFull()) {
            return FULL;
        }
        Packet packet = wire.addNewest();
        e.sealDraft(type, padding, packet);
        return packet.size;
    }

    public int deliver(int end) {
        if (!isEnd(end) || !ends[end].arriving.has(0)) {
            return NONE;
        }
        End e = ends[end];
        if (e.receiving.closed) {
            e.arriving.remove(0);
            return CLOSED;
        }
        if (e.delivered.isFull()) {
            return FULL;
        }
        return e.receive(e.arriving.remove(0));
    }

    public boolean alter(int end, int k, int i, int x) {
        if (!isOnWire(end, k) || x < 1 || x > 255) {
            return false;
        }
        Packet packet = ends[end].arriving.slots[k];
        if (i < 0 || i > packet.size) {
            return false;
        }
        if (i == 0) {
            packet.type ^= x;
        } else {
            packet.bytes[i - 1] ^= x;
        }
        return true;
    }

    public boolean cut(int end, int k) {
        if (!isOnWire(end, k) || ends[end].arriving.slots[k].size == 0) {
            return false;
        }
        ends[end].arriving.slots[k].size--;
        return true;
    }

    public boolean lose(int end, int k) {
        if (!isOnWire(end, k)) {
            return false;
        }
        ends[end].arriving.remove(k);
        return true;
    }

    public boolean copy(int end, int k) {
        if (!isOnWire(end, k) || ends[end].arriving.isFull()) {
            return false;
        }
        Row wire = ends[end].arriving;
        wire.addNewest().becomeLike(wire.slots[k]);
        return true;
    }

    public boolean swap(int end, int k) {
        // k is known to be below the wire's size before 1 is added to it, so k + 1 cannot wrap
        if (!isOnWire(end, k) || !isOnWire(end, k + 1)) {
            return false;
        }
        Row wire = ends[end].arriving;
        Packet earlier = wire.slots[k];
        wire.slots[k] = wire.slots[k + 1];
        wire.slots[k + 1] = earlier;
        return true;
    }

    public boolean inject(int end, int type, int n, int x) {
        if (!isEnd(end) || !isByte(type) || !isByte(x) || n < 0 || n > MOST_PAYLOAD) {
            return false;
        }
        if (ends[end].arriving.isFull()) {
            return false;
        }
        Packet packet = ends[end].arriving.addNewest();
        packet.restart(type);
        for (int i = 0; i < n; i++) {
            packet.append(x);
        }
        return true;
    }

    public int waiting(int end) {
        return isEnd(end) ? ends[end].arriving.size : NONE;
    }

    public int wire(int end, int k, int i) {
        if (!isOnWire(end, k)) {
            return NONE;
        }
        Packet packet = ends[end].arriving.slots[k];
        if (i == -1) {
            return packet.size;
        }
        if (i == 0) {
            return packet.type;
        }
        return i > 0 && i <= packet.size ? packet.bytes[i - 1] : NONE;
    }

    public int items(int end) {
        return isEnd(end) ? ends[end].delivered.size : NONE;
    }

    public int item(int end, int i) {
        if (!isEnd(end) || !ends[end].delivered.has(0)) {
            return NONE;
        }
        Packet oldest = ends[end].delivered.slots[0];
        if (i == -2) {
            return oldest.type;
        }
        if (i == -1) {
            return oldest.size;
        }
        return i >= 0 && i < oldest.size ? oldest.bytes[i] : NONE;
    }

    public boolean take(int end) {
        if (!isEnd(end) || !ends[end].delivered.has(0)) {
            return false;
        }
        ends[end].delivered.remove(0);
        return true;
    }

    public int look(int end, int what) {
        if (!isEnd(end)) {
            return NONE;
        }
        End e = ends[end];
        switch (what) {
            case 0:
                return e.chainStage;
            case 1:
                return e.sending.stage;
            case 2:
                return e.sending.count;
            case 3:
                return asNumber(e.sending.closed);
            case 4:
                return e.receiving.stage;
            case 5:
                return e.receiving.count;
            case 6:
                return e.reason;
            case 7:
                return asNumber(e.messages.isOpen());
            case 8:
                return asNumber(e.owesChange);
            case 9:
                return e.draft.size;
            default:
                return NONE;
        }
    }

    private boolean isOnWire(int end, int k) {
        return isEnd(end) && ends[end].arriving.has(k);
    }

    private static boolean isEnd(int end) {
        return end == 0 || end == 1;
    }

    private static boolean isByte(int b) {
        return b >= 0 && b <= 255;
    }

    private static int asNumber(boolean whether) {
        return whether ? 1 : 0;
    }

    private static long mix(long a, long b) {
        long t = (a ^ b) * 6364136223846793005L + 1442695040888963407L;
        return t ^ (t >>> 29);
    }

    /** A type with some bytes: a record on a wire, an item, a draft, or what was opened. */
    private static final class Packet {
        final int[] bytes;
        int type;
        int size;

        Packet(int room) {
            bytes = new int[room];
        }

        boolean isFull() {
            return size == bytes.length;
        }

        void restart(int newType) {
            type = newType;
            size = 0;
        }

        void append(int b) {
            if (size < bytes.length) {
                bytes[size] = b;
                size++;
            }
        }

        void becomeLike(Packet other) {
            restart(other.type);
            for (int i = 0; i < other.size; i++) {
                append(other.bytes[i]);
            }
        }
    }

    /** Packets in order, the oldest at 0; packets taken away go behind the last to be used again. */
    private static final class Row {
        final Packet[] slots;
        int size;

        Row(int most, int room) {
            slots = new Packet[most];
            for (int i = 0; i < most; i++) {
                slots[i] = new Packet(room);
            }
        }

        boolean isFull() {
            return size == slots.length;
        }

        boolean has(int k) {
            return k >= 0 && k < size;
        }

        /** Only for a row that is not full; the packet still holds what it held before. */
        Packet addNewest() {
            Packet newest = slots[size];
            size++;
            return newest;
        }

        /** Only for a k that the row has; the packet is good until the next one is added. */
        Packet remove(int k) {
            Packet gone = slots[k];
            size--;
            for (int i = k; i < size; i++) {
                slots[i] = slots[i + 1];
            }
            slots[size] = gone;
            return gone;
        }
    }

    /** One direction of an end. */
    private static final class Side {
        int stage;
        long secret;
        int count;
        boolean closed;

        void useSecret(long newSecret) {
            secret = newSecret;
            count = 0;
        }

        void changeSecret() {
            useSecret(mix(secret, LABEL_CHANGE));
        }

        long maskSeed() {
            return mix(mix(secret, LABEL_MASK), count);
        }

        static int maskByte(long seed, int i) {
            return (int) (mix(seed, i) >>> 40) & 255;
        }

        long tagOf(int[] bytes, int m) {
            long t = mix(mix(mix(secret, LABEL_TAG), count), m);
            for (int i = 0; i < m; i++) {
                t = mix(t, bytes[i]);
            }
            return t;
        }

        static int tagByte(long tag, int i) {
            return (int) (tag >>> 8 * (TAG_BYTES - 1 - i)) & 255;
        }

        boolean endsWithTag(Packet packet) {
            int m = packet.size - TAG_BYTES;
            if (m < 0) {
                return false;
            }
            long tag = tagOf(packet.bytes, m);
            for (int i = 0; i < TAG_BYTES; i++) {
                if (packet.bytes[m + i] != tagByte(tag, i)) {
                    return false;
                }
            }
            return true;
        }
    }

    /** How far the message has come that the last content of messages left unfinished. */
    private static final class Messages {
        int kind;
        int length;
        int come;

        boolean isOpen() {
            return come > 0;
        }

        void becomeLike(Messages other) {
            kind = other.kind;
            length = other.length;
            come = other.come;
        }

        /** Answers whether b completes a message; kind and length stay those of that message then. */
        boolean completesWith(int b) {
            come++;
            if (come == 1) {
                kind = b;
                return false;
            }
            if (come == 2) {
                length = b;
            }
            if (come < 2 + length) {
                return false;
            }
            come = 0;
            return true;
        }
    }

    /** One of the two ends, with the wire to it. */
    private static final class End {
        final int number;
        final Side sending = new Side();
        final Side receiving = new Side();
        final Packet draft = new Packet(MOST_CONTENT);
        final Row arriving = new Row(MOST_RECORDS, MOST_PAYLOAD);
        final Row delivered = new Row(MOST_ITEMS, MOST_CONTENT);
        final Messages messages = new Messages();
        // an alert leaves the messages as they were, so judging reads ahead with these
        final Messages ahead = new Messages();
        final Packet opened = new Packet(MOST_INNER);
        long chain;
        int chainStage;
        int reason = NONE;
        boolean owesChange;

        End(int number) {
            this.number = number;
        }

        long sendingSecret() {
            return mix(chain, LABEL_SENDING + number);
        }

        long receivingSecret() {
            return mix(chain, LABEL_RECEIVING - number);
        }

        boolean allowsPadding(int padding) {
            int most = sending.stage == 0 ? 0 : MOST_CONTENT - draft.size;
            return padding >= 0 && padding <= most;
        }

        void sealDraft(int type, int padding, Packet packet) {
            packet.becomeLike(draft);
            if (sending.stage == 0) {
                packet.type = type;
            } else {
                packet.type = TYPE_SEALED;
                packet.append(type);
                for (int i = 0; i < padding; i++) {
                    packet.append(0);
                }
                maskAndTag(packet);
            }
            draft.restart(0);
            sending.count++;
            if (type == TYPE_CLOSING) {
                sending.closed = true;
            }
        }

        void maskAndTag(Packet packet) {
            long seed = sending.maskSeed();
            int m = packet.size;
            for (int i = 0; i < m; i++) {
                packet.bytes[i] ^= Side.maskByte(seed, i);
            }
            long tag = sending.tagOf(packet.bytes, m);
            for (int i = 0; i < TAG_BYTES; i++) {
                packet.append(Side.tagByte(tag, i));
            }
        }

        int receive(Packet packet) {
            int outcome = open(packet);
            if (outcome == IGNORED) {
                return IGNORED;
            }
            if (outcome == NO_ALERT) {
                outcome = judge();
            }
            if (outcome != NO_ALERT) {
                return raiseAlert(outcome);
            }
            accept();
            return opened.size;
        }

        int raiseAlert(int alert) {
            closeReceiving(ALERT_BASE + alert);
            return reason;
        }

        void closeReceiving(int why) {
            receiving.closed = true;
            reason = why;
        }

        /** Answers IGNORED, an alert or NO_ALERT; with NO_ALERT the inner type and content are in opened. */
        int open(Packet packet) {
            if (packet.type == TYPE_IGNORABLE) {
                return isIgnored(packet) ? IGNORED : ALERT_UNEXPECTED;
            }
            if (receiving.stage == 0) {
                return openPlain(packet);
            }
            if (packet.type != TYPE_SEALED) {
                return ALERT_UNEXPECTED;
            }
            if (packet.size > MOST_INNER + TAG_BYTES) {
                return ALERT_TOO_LONG;
            }
            if (!receiving.endsWithTag(packet)) {
                return ALERT_WRONG_TAG;
            }
            return openSealed(packet);
        }

        boolean isIgnored(Packet packet) {
            return packet.size == 1 && packet.bytes[0] == 1 && receiving.stage < LAST_STAGE;
        }

        int openPlain(Packet packet) {
            if (packet.size > MOST_CONTENT) {
                return ALERT_TOO_LONG;
            }
            opened.becomeLike(packet);
            return NO_ALERT;
        }

        int openSealed(Packet packet) {
            long seed = receiving.maskSeed();
            receiving.count++;
            int m = packet.size - TAG_BYTES;
            int last = NONE;
            opened.restart(0);
            for (int i = 0; i < m; i++) {
                int b = packet.bytes[i] ^ Side.maskByte(seed, i);
                opened.append(b);
                if (b != 0) {
                    last = i;
                }
            }
            if (last == NONE) {
                return ALERT_UNEXPECTED;
            }
            opened.type = opened.bytes[last];
            opened.size = last;
            return NO_ALERT;
        }

        int judge() {
            int type = opened.type;
            if (type != TYPE_CLOSING && type != TYPE_MESSAGES && type != TYPE_DATA) {
                return ALERT_UNEXPECTED;
            }
            if (type == TYPE_DATA && receiving.stage != LAST_STAGE) {
                return ALERT_UNEXPECTED;
            }
            if (messages.isOpen() && type != TYPE_MESSAGES) {
                return ALERT_UNEXPECTED;
            }
            if (type == TYPE_CLOSING && opened.size != 2) {
                return ALERT_MISSHAPEN;
            }
            return type == TYPE_MESSAGES ? judgeMessages() : NO_ALERT;
        }

        int judgeMessages() {
            if (opened.size == 0) {
                return ALERT_UNEXPECTED;
            }
            ahead.becomeLike(messages);
            for (int i = 0; i < opened.size; i++) {
                if (ahead.completesWith(opened.bytes[i]) && ahead.kind == KEY_CHANGE) {
                    return judgeKeyChange(ahead.length, i);
                }
            }
            return NO_ALERT;
        }

        int judgeKeyChange(int length, int lastByte) {
            if (receiving.stage != LAST_STAGE) {
                return ALERT_UNEXPECTED;
            }
            if (length != 1) {
                return ALERT_MISSHAPEN;
            }
            // with a length of 1 the body byte is the message's last byte
            if (opened.bytes[lastByte] > 1) {
                return ALERT_ILLEGAL;
            }
            return lastByte == opened.size - 1 ? NO_ALERT : ALERT_UNEXPECTED;
        }

        void accept() {
            delivered.addNewest().becomeLike(opened);
            if (opened.type == TYPE_CLOSING) {
                closeReceiving(opened.bytes[1]);
            }
            if (opened.type == TYPE_MESSAGES) {
                acceptMessages();
            }
        }

        void acceptMessages() {
            for (int i = 0; i < opened.size; i++) {
                int b = opened.bytes[i];
                if (messages.completesWith(b) && messages.kind == KEY_CHANGE) {
                    changeKey(b);
                }
            }
        }

        void changeKey(int body) {
            receiving.changeSecret();
            if (body == 1) {
                owesChange = true;
            }
        }
    }
}
