import java.util.Arrays;
import java.util.Random;

/** Random calls with right and wrong numbers: none throws, a refused one changes nothing, and all fits together. */
final class WildCallsTest {
    private static final int ROUNDS = 400;
    private static final int[] WILD = {Integer.MIN_VALUE, -1001, -2, -1, 4, 8, 12, 16, 32, 1001, Integer.MAX_VALUE};

    private final Random random;
    private final EpochLeaves x = new EpochLeaves();

    private WildCallsTest(int seed) {
        random = new Random(seed);
    }

    public static void main(String[] args) {
        for (int seed = 0; seed < ROUNDS; seed++) {
            WildCallsTest test = new WildCallsTest(seed);
            for (int calls = 0; calls < 512; calls++) {
                test.one();
            }
        }
        Check.end();
    }

    private int below(int bound) {
        return random.nextInt(60) == 0 ? WILD[random.nextInt(WILD.length)] : random.nextInt(bound);
    }

    private void one() {
        int[] before = told();
        int epochBefore = x.epoch(0);
        int kind = random.nextInt(60);
        int answer;
        if (kind < 12) {
            answer = x.code(below(4), below(12), below(8), random.nextBoolean() ? 0 : below(32), below(4));
        } else if (kind == 12) {
            answer = x.clear(below(4)) ? 1 : -1;
        } else if (kind < 22) {
            answer = x.start(below(4), below(4), below(32), below(32));
        } else if (kind < 40) {
            answer = x.step(below(4));
        } else if (kind < 50) {
            answer = x.run(below(4), below(101));
        } else if (kind < 54) {
            answer = x.advance();
        } else if (kind < 59) {
            answer = x.flush(below(4));
        } else {
            answer = x.crash();
            Check.due("the epoch behind a crash is not greater", x.epoch(0) <= epochBefore, true);
        }
        int[] after = told();
        if (answer < 0) {
            Check.due("a refused call of kind " + kind + " changes nothing", Arrays.equals(before, after), true);
        }
        leavesFit();
        epochsFit();
        workersFit();
    }

    private int[] told() {
        int[] all = new int[128 + 64 + 60 + 12 + 2 + 200];
        int at = 0;
        for (int i = 0; i < 128; i++) {
            all[at++] = x.entry(i / 4, i % 4);
        }
        for (int i = 0; i < 64; i++) {
            all[at++] = x.leaf(i / 4, i % 4);
        }
        for (int i = 0; i < 60; i++) {
            all[at++] = i % 15 < 7 ? x.worker(i / 15, i % 15) : x.register(i / 15, i % 15 - 7);
        }
        for (int i = 0; i < 12; i++) {
            all[at++] = x.log(i / 3, i % 3);
        }
        all[at++] = x.epoch(0);
        all[at++] = x.epoch(1);
        for (int i = 0; i < 200; i++) {
            all[at++] = x.transaction(1 + i / 2, i % 2);
        }
        return all;
    }

    private void leavesFit() {
        int records = 0;
        for (int key = 0; key < 32; key++) {
            records += x.entry(key, 0) == 0 ? 0 : 1;
        }
        int inLeaves = 0;
        int place = 0;
        int lastLeast = -2;
        while (x.leaf(place, 0) != EpochLeaves.BAD) {
            int many = x.leaf(place, 2);
            Check.due("records in a leaf", many <= 4 && (place == 0 || many >= 2), true);
            Check.due("leaves ascend", x.leaf(place, 3) > lastLeast, true);
            lastLeast = x.leaf(place, 3);
            inLeaves += many;
            place++;
        }
        Check.due("records in all leaves", inLeaves, records);
    }

    private void epochsFit() {
        int least = Integer.MAX_VALUE;
        for (int w = 0; w < 4; w++) {
            least = Math.min(least, x.log(w, 2));
            Check.due("no more durable than kept", x.log(w, 1) <= x.log(w, 0), true);
            Check.due("a mark lies below the epoch", x.log(w, 2) < x.epoch(0), true);
        }
        Check.due("the durable epoch", x.epoch(1), least);
        for (int t = 1; x.transaction(t, 0) != EpochLeaves.BAD; t++) {
            int status = x.transaction(t, 0);
            int stamp = x.transaction(t, 1);
            Check.due("stamped when committed", stamp != 0, status == 2 || status == 3);
            if (stamp != 0) {
                Check.due("released when durable", status == 3, stamp / 1024 <= x.epoch(1));
            } else {
                Check.due("no result", x.result(t), 0);
            }
        }
    }

    private void workersFit() {
        for (int key = 0; key < 32; key++) {
            int lock = x.entry(key, 3);
            Check.due("a locker is LOCKING or later", lock == 0 || x.worker(lock - 1, 0) >= 2, true);
        }
        for (int w = 0; w < 4; w++) {
            int t = x.worker(w, 1);
            Check.due("what a worker has runs", t == 0 || x.transaction(t, 0) == 1, true);
        }
    }
}
