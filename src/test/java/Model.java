import java.util.ArrayList;
import java.util.Collections;
import java.util.List;

/**
 * The document once more, said as slowly and plainly as can be: lists that grow, and all message bytes kept and read
 * from the beginning each time. The random runs hold the program against it.
 */
final class Model {
    private static final int SENDING = 0;
    private static final int RECEIVING = 1;

    private static final class ModelEnd {
        long chain = 0;
        int chainStage = 0;
        final int[] stage = new int[2];
        final long[] secret = new long[2];
        final int[] count = new int[2];
        final boolean[] closed = new boolean[2];
        int reason = -1;
        boolean owes = false;
        final List<Integer> draft = new ArrayList<>();
        /** Records and items: the type first, then the bytes. */
        final List<List<Integer>> wire = new ArrayList<>();
        final List<List<Integer>> items = new ArrayList<>();
        final List<Integer> messageBytes = new ArrayList<>();
    }

    private final int limit;
    private final ModelEnd[] ends = {new ModelEnd(), new ModelEnd()};

    Model(int limit) {
        this.limit = limit < 1 || limit > 1000 ? 100 : limit;
    }

    boolean secret(int end, long s) {
        if (noEnd(end) || ends[end].chainStage == 2) {
            return false;
        }
        ends[end].chain = Formulas.mix(Formulas.mix(ends[end].chain, 3), s);
        ends[end].chainStage++;
        return true;
    }

    int key(int end, boolean sending) {
        if (noEnd(end)) {
            return -1;
        }
        ModelEnd e = ends[end];
        int side = sending ? SENDING : RECEIVING;
        if (e.closed[side]) {
            return -2;
        }
        if (e.stage[side] == e.chainStage) {
            return -4;
        }
        if (!sending && isOpen(e.messageBytes)) {
            return alert(e, 10);
        }
        e.stage[side] = e.chainStage;
        e.count[side] = 0;
        e.secret[side] = Formulas.mix(e.chain, sending ? 4 + end : 5 - end);
        return e.chainStage;
    }

    boolean advance(int end) {
        if (noEnd(end) || ends[end].stage[SENDING] != 2 || ends[end].closed[SENDING]) {
            return false;
        }
        change(ends[end], SENDING);
        ends[end].owes = false;
        return true;
    }

    boolean write(int end, int b) {
        return !noEnd(end) && b >= 0 && b <= 255 && ends[end].draft.size() < 16 && ends[end].draft.add(b);
    }

    int seal(int end, int type, int padding) {
        if (noEnd(end)) {
            return -1;
        }
        ModelEnd e = ends[end];
        if (e.closed[SENDING]) {
            return -2;
        }
        if (type < 0 || type > 255 || padding < 0 || padding > 0 && e.stage[SENDING] == 0 || (long) e.draft.size() + padding > 16) {
            return -4;
        }
        if (e.count[SENDING] == limit) {
            return -5;
        }
        if (ends[1 - end].wire.size() == 12) {
            return -3;
        }
        List<Integer> record = new ArrayList<>();
        if (e.stage[SENDING] == 0) {
            record.add(type);
            record.addAll(e.draft);
        } else {
            List<Integer> inner = new ArrayList<>(e.draft);
            inner.add(type);
            inner.addAll(Collections.nCopies(padding, 0));
            record.add(23);
            for (int b : Formulas.payload(e.secret[SENDING], e.count[SENDING], asArray(inner))) {
                record.add(b);
            }
        }
        ends[1 - end].wire.add(record);
        e.draft.clear();
        e.count[SENDING]++;
        e.closed[SENDING] = type == 21;
        return record.size() - 1;
    }

    int deliver(int end) {
        if (noEnd(end) || ends[end].wire.isEmpty()) {
            return -1;
        }
        ModelEnd e = ends[end];
        if (e.closed[RECEIVING]) {
            e.wire.remove(0);
            return -2;
        }
        if (e.items.size() == 16) {
            return -3;
        }
        List<Integer> record = e.wire.remove(0);
        int stage = e.stage[RECEIVING];
        if (record.get(0) == 20) {
            return record.equals(List.of(20, 1)) && stage != 2 ? 100 : alert(e, 10);
        }
        List<Integer> item = record;
        if (stage == 0 && record.size() - 1 > 16) {
            return alert(e, 22);
        }
        if (stage > 0) {
            int refused = sealedAlert(e, record);
            if (refused != 0) {
                return alert(e, refused);
            }
            item = unsealed(e, record);
            e.count[RECEIVING]++;
            if (item.isEmpty()) {
                return alert(e, 10);
            }
        }
        return judged(e, item.get(0), item.subList(1, item.size()));
    }

    private static int sealedAlert(ModelEnd e, List<Integer> record) {
        int size = record.size() - 1;
        if (record.get(0) != 23) {
            return 10;
        }
        if (size > 25) {
            return 22;
        }
        if (size < 8) {
            return 20;
        }
        // sealing what opening gives must give the record again, tag and all
        int[] payload = asArray(record.subList(1, record.size()));
        int[] again = Formulas.payload(e.secret[RECEIVING], e.count[RECEIVING], inner(e, payload));
        return java.util.Arrays.equals(again, payload) ? 0 : 20;
    }

    private static int[] inner(ModelEnd e, int[] payload) {
        int[] bytes = java.util.Arrays.copyOf(payload, payload.length - 8);
        // masking twice gives the bytes themselves
        return java.util.Arrays.copyOf(Formulas.payload(e.secret[RECEIVING], e.count[RECEIVING], bytes), bytes.length);
    }

    private static List<Integer> unsealed(ModelEnd e, List<Integer> record) {
        List<Integer> item = new ArrayList<>();
        for (int b : inner(e, asArray(record.subList(1, record.size())))) {
            item.add(b);
        }
        while (!item.isEmpty() && item.get(item.size() - 1) == 0) {
            item.remove(item.size() - 1);
        }
        Collections.rotate(item, 1);
        return item;
    }

    private static int judged(ModelEnd e, int type, List<Integer> content) {
        boolean data = type == 23 && e.stage[RECEIVING] == 2;
        if (type != 21 && type != 22 && !data || type != 22 && isOpen(e.messageBytes)) {
            return alert(e, 10);
        }
        if (type == 21 && content.size() != 2) {
            return alert(e, 50);
        }
        if (type == 22 && content.isEmpty()) {
            return alert(e, 10);
        }
        int[] change = type == 22 ? firstKeyChange(e.messageBytes, content) : null;
        if (change != null) {
            int a = e.stage[RECEIVING] != 2 ? 10 : change[0] != 1 ? 50 : change[1] > 1 ? 47 : change[2] != content.size() ? 10 : 0;
            if (a != 0) {
                return alert(e, a);
            }
            change(e, RECEIVING);
            e.owes |= change[1] == 1;
        }
        List<Integer> item = new ArrayList<>();
        item.add(type);
        item.addAll(content);
        e.items.add(item);
        if (type == 21) {
            e.closed[RECEIVING] = true;
            e.reason = content.get(1);
        }
        if (type == 22) {
            e.messageBytes.addAll(content);
        }
        return content.size();
    }

    /** Length, last body byte, and the number of bytes of the content up to its end; null if there is none. */
    private static int[] firstKeyChange(List<Integer> before, List<Integer> content) {
        List<Integer> all = new ArrayList<>(before);
        all.addAll(content);
        int at = 0;
        while (at + 1 < all.size() && at + 2 + all.get(at + 1) <= all.size()) {
            int end = at + 2 + all.get(at + 1);
            if (all.get(at) == 24 && end > before.size()) {
                return new int[] {all.get(at + 1), all.get(end - 1), end - before.size()};
            }
            at = end;
        }
        return null;
    }

    private static boolean isOpen(List<Integer> all) {
        int at = 0;
        while (at + 1 < all.size() && at + 2 + all.get(at + 1) <= all.size()) {
            at += 2 + all.get(at + 1);
        }
        return at < all.size();
    }

    boolean alter(int end, int k, int i, int x) {
        if (noRecord(end, k) || i < 0 || i >= ends[end].wire.get(k).size() || x < 1 || x > 255) {
            return false;
        }
        List<Integer> record = ends[end].wire.get(k);
        record.set(i, record.get(i) ^ x);
        return true;
    }

    boolean cut(int end, int k) {
        if (noRecord(end, k) || ends[end].wire.get(k).size() == 1) {
            return false;
        }
        List<Integer> record = ends[end].wire.get(k);
        record.remove(record.size() - 1);
        return true;
    }

    boolean lose(int end, int k) {
        return !noRecord(end, k) && ends[end].wire.remove(k) != null;
    }

    boolean copy(int end, int k) {
        return !noRecord(end, k) && ends[end].wire.size() < 12 && ends[end].wire.add(new ArrayList<>(ends[end].wire.get(k)));
    }

    boolean swap(int end, int k) {
        if (noRecord(end, k) || noRecord(end, k + 1)) {
            return false;
        }
        Collections.swap(ends[end].wire, k, k + 1);
        return true;
    }

    boolean inject(int end, int type, int n, int x) {
        if (noEnd(end) || type < 0 || type > 255 || x < 0 || x > 255 || n < 0 || n > 40 || ends[end].wire.size() == 12) {
            return false;
        }
        List<Integer> record = new ArrayList<>(Collections.nCopies(n, x));
        record.add(0, type);
        return ends[end].wire.add(record);
    }

    int waiting(int end) {
        return noEnd(end) ? -1 : ends[end].wire.size();
    }

    int wire(int end, int k, int i) {
        if (noRecord(end, k)) {
            return -1;
        }
        List<Integer> record = ends[end].wire.get(k);
        return i == -1 ? record.size() - 1 : i >= 0 && i < record.size() ? record.get(i) : -1;
    }

    int items(int end) {
        return noEnd(end) ? -1 : ends[end].items.size();
    }

    int item(int end, int i) {
        if (noEnd(end) || ends[end].items.isEmpty() || i < -2) {
            return -1;
        }
        List<Integer> item = ends[end].items.get(0);
        return i == -2 ? item.get(0) : i == -1 ? item.size() - 1 : i < item.size() - 1 ? item.get(i + 1) : -1;
    }

    boolean take(int end) {
        return !noEnd(end) && !ends[end].items.isEmpty() && ends[end].items.remove(0) != null;
    }

    int look(int end, int what) {
        if (noEnd(end) || what < 0 || what > 9) {
            return -1;
        }
        ModelEnd e = ends[end];
        int closed = e.closed[SENDING] ? 1 : 0;
        int open = isOpen(e.messageBytes) ? 1 : 0;
        int[] all = {e.chainStage, e.stage[SENDING], e.count[SENDING], closed, e.stage[RECEIVING], e.count[RECEIVING], e.reason, open, e.owes ? 1 : 0, e.draft.size()};
        return all[what];
    }

    private static int alert(ModelEnd e, int a) {
        e.closed[RECEIVING] = true;
        e.reason = 256 + a;
        return e.reason;
    }

    private static void change(ModelEnd e, int side) {
        e.secret[side] = Formulas.mix(e.secret[side], 6);
        e.count[side] = 0;
    }

    private static int[] asArray(List<Integer> list) {
        return list.stream().mapToInt(Integer::intValue).toArray();
    }

    private static boolean noEnd(int end) {
        return end != 0 && end != 1;
    }

    private boolean noRecord(int end, int k) {
        return noEnd(end) || k < 0 || k >= ends[end].wire.size();
    }
}
