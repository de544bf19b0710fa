import java.util.ArrayList;
import java.util.List;
import java.util.Random;
import java.util.TreeMap;

/**
 * Four workers run random procedures side by side. Those that come through the look again are done once more, one
 * after the other in the order in which they came through, on a plain map: results and records must be the same.
 */
final class SerialReplayTest {
    private static final int ROUNDS = 3000;

    private final Random random;
    private final EpochLeaves x = new EpochLeaves();
    private final List<List<int[]>> procedures = new ArrayList<>();
    private final List<int[]> starts = new ArrayList<>();
    private final List<Integer> order = new ArrayList<>();
    private final int[] transactionOf = new int[4];
    private final int keys;
    private int committed;
    private int aborted;
    private int lost;

    private SerialReplayTest(int seed) {
        random = new Random(seed);
        keys = 1 + random.nextInt(32);
        for (int p = 0; p < 4; p++) {
            procedures.add(new ArrayList<>());
            int length = 1 + random.nextInt(10);
            for (int i = 0; i < length; i++) {
                appendRandom(p);
            }
        }
    }

    public static void main(String[] args) {
        int committed = 0;
        int lost = 0;
        int aborted = 0;
        for (int seed = 0; seed < ROUNDS; seed++) {
            SerialReplayTest test = new SerialReplayTest(seed);
            test.work();
            test.endAll();
            test.compareAll(seed % 2 == 0);
            committed += test.committed;
            aborted += test.aborted;
            lost += test.lost;
        }
        System.out.println(committed + " committed, " + aborted + " aborted, " + lost + " lost");
        Check.due("there were commits, aborts and losses", committed > 0 && aborted > 0 && lost > 0, true);
        Check.end();
    }

    private void appendRandom(int p) {
        int[] ops = {Check.SET, Check.ADD, Check.SUB, Check.MUL, Check.LESS, Check.ZERO, Check.GET, Check.GET,
            Check.GET, Check.PUT, Check.PUT, Check.PUT, Check.DROP, Check.SUM, Check.SUM, Check.GIVE, Check.FAIL};
        int op = ops[random.nextInt(random.nextInt(3) == 0 ? ops.length : ops.length - 2)];
        int a = random.nextInt(7);
        int b = random.nextInt(4);
        int c = random.nextInt(4);
        if (op == Check.SET) {
            a = 2 + random.nextInt(5);
            b = random.nextInt(keys);
        }
        if (op == Check.ZERO) {
            b = random.nextInt(16);
        }
        if (op >= Check.PUT && op <= Check.DROP) {
            a = random.nextInt(4);
        }
        if (op == Check.DROP || op == Check.GIVE || op == Check.FAIL) {
            b = 0;
        }
        if (op == Check.SET || (op >= Check.ZERO && op != Check.SUM)) {
            c = 0;
        }
        if (op == Check.FAIL) {
            a = 0;
        }
        Check.due("code", x.code(p, op, a, b, c), procedures.get(p).size());
        procedures.get(p).add(new int[] {op, a, b, c});
    }

    // An object has 512 calls: 70 turns of three at most leave enough for the procedures and the comparing.
    private void work() {
        for (int turns = 0; turns < 70; turns++) {
            int w = random.nextInt(4);
            int what = random.nextInt(40);
            if (what < 9) {
                startOne(w);
            } else if (what < 36) {
                moveOne(w, 1 + random.nextInt(6));
            } else if (what < 37) {
                x.advance();
            } else if (what < 39) {
                x.flush(w);
            } else if (random.nextInt(4) == 0) {
                x.crash();
            }
        }
    }

    private void startOne(int w) {
        int p = random.nextInt(4);
        int a = random.nextInt(keys);
        int b = random.nextInt(keys);
        int t = x.start(w, p, a, b);
        if (t > 0) {
            starts.add(new int[] {p, a, b});
            transactionOf[w] = t;
        }
    }

    /** At most n steps; if the look again was among them, the transaction has its place in the order. */
    private int moveOne(int w, int n) {
        int before = x.worker(w, 0);
        int answer = x.run(w, n);
        boolean through = answer == 2 || answer == 1 && x.worker(w, 0) == 4;
        if (before < 4 && through) {
            order.add(transactionOf[w]);
        }
        committed += answer == 2 ? 1 : 0;
        aborted += answer == 3 ? 1 : 0;
        return answer;
    }

    // Locks are taken by ascending keys, so of those that wait at least one always comes to its end.
    private void endAll() {
        for (int turns = 0; turns < 4; turns++) {
            for (int w = 0; w < 4; w++) {
                moveOne(w, 100);
                moveOne(w, 100);
            }
        }
        for (int w = 0; w < 4; w++) {
            Check.due("worker " + w + " comes to an end", x.worker(w, 0), 0);
        }
        x.advance();
        Check.flushAll(x);
    }

    private void compareAll(boolean crashed) {
        if (crashed) {
            Check.due("crash", x.crash(), x.epoch(1));
        }
        compareRecords(replay());
    }

    /** Does all that came through and was not lost, and compares what is released. */
    private TreeMap<Integer, Integer> replay() {
        TreeMap<Integer, Integer> records = new TreeMap<>();
        for (int t : order) {
            int status = x.transaction(t, 0);
            Check.due("transaction " + t + " is RELEASED or LOST", status == 3 || status == 5, true);
            if (status == 5) {
                lost++;
                continue;
            }
            int[] start = starts.get(t - 1);
            int result = replayOne(procedures.get(start[0]), start[1], start[2], records);
            Check.due("result(" + t + ")", x.result(t), result);
        }
        return records;
    }

    private static int replayOne(List<int[]> procedure, int x, int y, TreeMap<Integer, Integer> records) {
        int[] r = new int[8];
        r[0] = x;
        r[1] = y;
        int next = 0;
        for (int done = 0; next < procedure.size(); done++) {
            Check.due("too many instructions were done", done == 60, false);
            if (done == 60) {
                return 0;
            }
            int[] row = procedure.get(next);
            next++;
            int a = row[1];
            int b = row[2];
            int c = row[3];
            switch (row[0]) {
                case Check.SET -> r[a] = b;
                case Check.ADD -> r[a] = r[b] + r[c];
                case Check.SUB -> r[a] = r[b] - r[c];
                case Check.MUL -> r[a] = r[b] * r[c];
                case Check.LESS -> r[a] = r[b] < r[c] ? 1 : 0;
                case Check.ZERO -> next = r[a] == 0 ? b : next;
                case Check.GET -> {
                    Integer value = records.get(r[b]);
                    r[a] = value == null ? 0 : value;
                    r[7] = value == null ? 0 : 1;
                }
                case Check.PUT -> records.put(r[a], r[b]);
                case Check.DROP -> records.remove(r[a]);
                case Check.SUM -> {
                    int sum = 0;
                    int many = 0;
                    if (r[b] <= r[c]) {
                        for (int value : records.subMap(r[b], true, r[c], true).values()) {
                            sum += value;
                            many++;
                        }
                    }
                    r[a] = sum;
                    r[7] = many;
                }
                case Check.GIVE -> {
                    return r[a];
                }
                default -> throw new IllegalStateException("an aborted run was committed");
            }
        }
        return 0;
    }

    private void compareRecords(TreeMap<Integer, Integer> records) {
        for (int key = 0; key < 32; key++) {
            Integer value = records.get(key);
            Check.due("entry(" + key + ", 0) is PRESENT", x.entry(key, 0) == 2, value != null);
            Check.due("entry(" + key + ", 1)", x.entry(key, 1), value == null ? 0 : value);
            Check.due("entry(" + key + ", 3)", x.entry(key, 3), 0);
        }
    }
}
