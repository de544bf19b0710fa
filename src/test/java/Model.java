import java.util.ArrayList;
import java.util.HashMap;
import java.util.List;
import java.util.Map;
import java.util.Set;
import java.util.TreeMap;
import java.util.TreeSet;

/** The document in its own words, with maps and sets, as plain as can be: what the class is compared with. */
final class Model {
    private static final int BAD = -1;
    private static final int BUSY = -2;
    private static final int FULL = -3;

    /** A record; a null value is ABSENT. */
    private static final class Rec {
        Integer value;
        int stamp;
        Worker locker;
    }

    private static final class Leaf {
        final int name;
        final TreeSet<Integer> keys = new TreeSet<>();
        int version;

        Leaf(int name) {
            this.name = name;
        }
    }

    private static final class Transaction {
        final TreeMap<Integer, Integer> writes = new TreeMap<>();
        final Map<Rec, Integer> reads = new HashMap<>();
        final Map<Leaf, Integer> nodes = new HashMap<>();
        int status = 1;
        int result;
        int epoch;
        int stamp;
        boolean durable;
    }

    private static final class Worker {
        int state;
        List<int[]> procedure;
        Transaction has;
        int next;
        int done;
        int[] r = new int[8];
        Set<Integer> ahead = new TreeSet<>();
        int latest;
        int mark;
        final List<Transaction> log = new ArrayList<>();
    }

    private final List<List<int[]>> procedures = new ArrayList<>();
    private final List<Worker> workers = new ArrayList<>();
    private final List<Transaction> transactions = new ArrayList<>();
    private TreeMap<Integer, Rec> records = new TreeMap<>();
    private List<Leaf> leaves = new ArrayList<>();
    private int epoch = 1;

    Model() {
        for (int i = 0; i < 4; i++) {
            procedures.add(new ArrayList<>());
            workers.add(new Worker());
        }
        leaves.add(new Leaf(1));
    }

    private static boolean in(int number, int least, int greatest) {
        return least <= number && number <= greatest;
    }

    private static boolean fits(int op, int a, int b, int c) {
        switch (op) {
            case 0: return in(a, 0, 7) && in(b, -1000, 1000) && c == 0;
            case 1: case 2: case 3: case 4: return in(a, 0, 7) && in(b, 0, 7) && in(c, 0, 7);
            case 5: return in(a, 0, 7) && in(b, 0, 15) && c == 0;
            case 6: return in(a, 0, 6) && in(b, 0, 7) && c == 0;
            case 7: return in(a, 0, 7) && in(b, 0, 7) && c == 0;
            case 8: case 10: return in(a, 0, 7) && b == 0 && c == 0;
            case 9: return in(a, 0, 6) && in(b, 0, 7) && in(c, 0, 7);
            case 11: return a == 0 && b == 0 && c == 0;
            default: return false;
        }
    }

    int code(int p, int op, int a, int b, int c) {
        if (!in(p, 0, 3) || !fits(op, a, b, c) || procedures.get(p).size() == 16) {
            return BAD;
        }
        procedures.get(p).add(new int[] {op, a, b, c});
        return procedures.get(p).size() - 1;
    }

    int clear(int p) {
        if (!in(p, 0, 3)) {
            return 0;
        }
        for (Worker one : workers) {
            if (one.state == 1 && one.procedure == procedures.get(p)) {
                return 0;
            }
        }
        procedures.get(p).clear();
        return 1;
    }

    int start(int w, int p, int x, int y) {
        if (!in(w, 0, 3) || !in(p, 0, 3)) {
            return BAD;
        }
        Worker one = workers.get(w);
        if (one.state != 0) {
            return BUSY;
        }
        if (transactions.size() == 100) {
            return FULL;
        }
        one.has = new Transaction();
        transactions.add(one.has);
        one.procedure = procedures.get(p);
        one.state = 1;
        one.next = 0;
        one.done = 0;
        one.r = new int[] {x, y, 0, 0, 0, 0, 0, 0};
        return transactions.size();
    }

    int step(int w) {
        if (!in(w, 0, 3)) {
            return BAD;
        }
        Worker one = workers.get(w);
        switch (one.state) {
            case 1: return running(one);
            case 2: return locking(one);
            case 3: return fenced(one);
            case 4: return installing(one);
            default: return BUSY;
        }
    }

    int run(int w, int n) {
        if (!in(w, 0, 3) || !in(n, 1, 100)) {
            return BAD;
        }
        int answer = step(w);
        for (int i = 1; i < n && answer == 1; i++) {
            answer = step(w);
        }
        return answer;
    }

    private int running(Worker one) {
        if (one.next >= one.procedure.size()) {
            return give(one, 0);
        }
        int[] row = one.procedure.get(one.next);
        int a = row[1];
        int b = row[2];
        int c = row[3];
        int[] r = one.r;
        int key = row[0] == 6 ? r[b] : r[a];
        if (one.done == 60 || row[0] == 11 || in(row[0], 6, 8) && !in(key, 0, 31)) {
            return abort(one);
        }
        int from = row[0] == 9 ? Math.max(0, r[b]) : key;
        int to = row[0] == 9 ? Math.min(31, r[c]) : key;
        if ((row[0] == 6 || row[0] == 9) && isBlocked(one, from, to)) {
            return 0;
        }
        one.done++;
        one.next++;
        switch (row[0]) {
            case 0: r[a] = b; break;
            case 1: r[a] = r[b] + r[c]; break;
            case 2: r[a] = r[b] - r[c]; break;
            case 3: r[a] = r[b] * r[c]; break;
            case 4: r[a] = r[b] < r[c] ? 1 : 0; break;
            case 5: one.next = r[a] == 0 ? b : one.next; break;
            case 7: one.has.writes.put(key, r[b]); break;
            case 8: one.has.writes.put(key, null); break;
            case 10: return give(one, r[a]);
            default: see(one, a, from, to, row[0] == 9);
        }
        return 1;
    }

    private boolean isBlocked(Worker one, int from, int to) {
        for (int key = from; key <= to; key++) {
            Rec seen = records.get(key);
            if (!one.has.writes.containsKey(key) && seen != null && seen.locker != null && seen.locker != one) {
                return true;
            }
        }
        return false;
    }

    private void see(Worker one, int a, int from, int to, boolean leavesToo) {
        int sum = 0;
        int many = 0;
        for (int key = from; key <= to; key++) {
            Leaf leaf = leafOf(key);
            Integer value = null;
            if (one.has.writes.containsKey(key)) {
                value = one.has.writes.get(key);
            } else if (records.containsKey(key)) {
                value = records.get(key).value;
                one.has.reads.putIfAbsent(records.get(key), records.get(key).stamp);
            } else {
                one.has.nodes.putIfAbsent(leaf, leaf.version);
            }
            if (leavesToo) {
                one.has.nodes.putIfAbsent(leaf, leaf.version);
            }
            sum += value == null ? 0 : value;
            many += value == null ? 0 : 1;
        }
        one.r[a] = sum;
        one.r[7] = many;
    }

    private int give(Worker one, int result) {
        one.has.result = result;
        one.state = 2;
        one.ahead = new TreeSet<>(one.has.writes.keySet());
        return 1;
    }

    private Leaf leafOf(int key) {
        Leaf last = leaves.get(0);
        for (Leaf leaf : leaves) {
            if (!leaf.keys.isEmpty() && leaf.keys.first() <= key) {
                last = leaf;
            }
        }
        return last;
    }

    /** The leaf that was made new by it, or null. */
    private Leaf add(int key, Rec added) {
        Leaf leaf = leafOf(key);
        records.put(key, added);
        leaf.keys.add(key);
        leaf.version++;
        if (leaf.keys.size() < 5) {
            return null;
        }
        Leaf behind = new Leaf(leaves.size() + 1);
        behind.keys.add(leaf.keys.pollLast());
        behind.keys.add(leaf.keys.pollLast());
        leaf.version++;
        leaves.add(leaves.indexOf(leaf) + 1, behind);
        return behind;
    }

    private int locking(Worker one) {
        if (one.ahead.isEmpty()) {
            one.state = 3;
            one.has.epoch = epoch;
            return 1;
        }
        int key = one.ahead.iterator().next();
        Rec record = records.get(key);
        if (record == null) {
            record = new Rec();
            Leaf leaf = leafOf(key);
            boolean asKept = one.has.nodes.getOrDefault(leaf, -1) == leaf.version;
            Leaf behind = add(key, record);
            if (asKept) {
                one.has.nodes.put(leaf, leaf.version);
            }
            if (asKept && behind != null) {
                one.has.nodes.put(behind, behind.version);
            }
        }
        if (record.locker != null) {
            return 0;
        }
        record.locker = one;
        one.ahead.remove(key);
        return 1;
    }

    private int fenced(Worker one) {
        int greatest = one.latest;
        for (Rec read : one.has.reads.keySet()) {
            if (read.stamp != one.has.reads.get(read) || read.locker != null && read.locker != one) {
                return abort(one);
            }
            greatest = Math.max(greatest, read.stamp);
        }
        for (Leaf node : one.has.nodes.keySet()) {
            if (node.version != one.has.nodes.get(node)) {
                return abort(one);
            }
        }
        for (int key : one.has.writes.keySet()) {
            greatest = Math.max(greatest, records.get(key).stamp);
        }
        int stamp = 1024 * one.has.epoch;
        while (stamp <= greatest) {
            stamp++;
        }
        one.has.stamp = stamp;
        one.latest = stamp;
        one.ahead = new TreeSet<>(one.has.writes.keySet());
        one.state = 4;
        return 1;
    }

    private int installing(Worker one) {
        if (one.ahead.isEmpty()) {
            one.has.status = 2;
            one.log.add(one.has);
            one.state = 0;
            release();
            return 2;
        }
        int key = one.ahead.iterator().next();
        one.ahead.remove(key);
        Rec record = records.get(key);
        record.value = one.has.writes.get(key);
        record.stamp = one.has.stamp;
        record.locker = null;
        return 1;
    }

    private int abort(Worker one) {
        for (Rec record : records.values()) {
            record.locker = record.locker == one ? null : record.locker;
        }
        one.has.status = 4;
        one.state = 0;
        return 3;
    }

    private int durableEpoch() {
        int least = Integer.MAX_VALUE;
        for (Worker one : workers) {
            least = Math.min(least, one.mark);
        }
        return least;
    }

    private int release() {
        int many = 0;
        for (Transaction each : transactions) {
            if (each.status == 2 && each.epoch <= durableEpoch()) {
                each.status = 3;
                many++;
            }
        }
        return many;
    }

    int advance() {
        for (Worker one : workers) {
            if (one.state >= 3 && one.has.epoch < epoch) {
                return BUSY;
            }
        }
        return ++epoch;
    }

    int flush(int w) {
        if (!in(w, 0, 3)) {
            return BAD;
        }
        Worker one = workers.get(w);
        for (Transaction each : one.log) {
            each.durable = true;
        }
        one.mark = Math.max(one.mark, (one.state >= 3 ? one.has.epoch : epoch) - 1);
        return release();
    }

    int crash() {
        int d = durableEpoch();
        TreeMap<Integer, Transaction> latest = new TreeMap<>();
        for (Worker one : workers) {
            if (one.state != 0) {
                one.has.status = 5;
            }
            one.state = 0;
            one.latest = 0;
            one.mark = d;
            for (Transaction each : one.log) {
                each.status = each.epoch > d ? 5 : each.status;
            }
            one.log.removeIf(each -> each.epoch > d);
            for (Transaction each : one.log) {
                for (int key : each.writes.keySet()) {
                    latest.merge(key, each, (old, young) -> old.stamp > young.stamp ? old : young);
                }
            }
        }
        epoch = d + 1;
        makeAgain(latest);
        return d;
    }

    private void makeAgain(TreeMap<Integer, Transaction> latest) {
        records = new TreeMap<>();
        leaves = new ArrayList<>();
        leaves.add(new Leaf(1));
        for (int key : latest.keySet()) {
            Rec record = new Rec();
            record.value = latest.get(key).writes.get(key);
            record.stamp = latest.get(key).stamp;
            if (record.value != null) {
                add(key, record);
            }
        }
    }

    int transaction(int t, int what) {
        if (!in(t, 1, transactions.size()) || !in(what, 0, 1)) {
            return BAD;
        }
        Transaction asked = transactions.get(t - 1);
        return what == 0 ? asked.status : asked.status == 2 || asked.status == 3 ? asked.stamp : 0;
    }

    int result(int t) {
        return in(t, 1, transactions.size()) && transactions.get(t - 1).status == 3 ? transactions.get(t - 1).result : 0;
    }

    int entry(int key, int what) {
        if (!in(key, 0, 31) || !in(what, 0, 3)) {
            return BAD;
        }
        Rec asked = records.get(key);
        if (asked == null) {
            return 0;
        }
        switch (what) {
            case 0: return asked.value == null ? 1 : 2;
            case 1: return asked.value == null ? 0 : asked.value;
            case 2: return asked.stamp;
            default: return workers.indexOf(asked.locker) + 1;
        }
    }

    int leaf(int place, int what) {
        if (!in(place, 0, leaves.size() - 1) || !in(what, 0, 3)) {
            return BAD;
        }
        Leaf asked = leaves.get(place);
        int[] all = {asked.name, asked.version, asked.keys.size(), asked.keys.isEmpty() ? -1 : asked.keys.first()};
        return all[what];
    }

    int worker(int w, int what) {
        if (!in(w, 0, 3) || !in(what, 0, 6)) {
            return BAD;
        }
        Worker one = workers.get(w);
        if (one.state == 0) {
            return 0;
        }
        int[] all = {one.state, transactions.indexOf(one.has) + 1, one.state == 1 ? one.next : 0,
            one.state >= 3 ? one.has.epoch : 0, one.has.writes.size(), one.has.reads.size(), one.has.nodes.size()};
        return all[what];
    }

    int register(int w, int r) {
        return in(w, 0, 3) && in(r, 0, 7) && workers.get(w).state != 0 ? workers.get(w).r[r] : 0;
    }

    int log(int w, int what) {
        if (!in(w, 0, 3) || !in(what, 0, 2)) {
            return BAD;
        }
        Worker one = workers.get(w);
        int durable = 0;
        for (Transaction each : one.log) {
            durable += each.durable ? 1 : 0;
        }
        return new int[] {one.log.size(), durable, one.mark}[what];
    }

    int epoch(int what) {
        return what == 0 ? epoch : what == 1 ? durableEpoch() : BAD;
    }
}
