import java.util.Random;

/** Random calls with right and wrong numbers: none throws, a refused one changes nothing, and all fits together. */
final class WildCallsTest {
    private static final int ROUNDS = 150;
    // An object has 512 calls: what is asked behind these takes less than the rest.
    private static final int CALLS = 140;
    private static final int[] WILD = {Integer.MIN_VALUE, -1001, -2, -1, 4, 8, 12, 16, 32, 1001, Integer.MAX_VALUE};

    private final Random random;
    private final int seed;
    private final int[][] calls = new int[CALLS][6];

    private WildCallsTest(int seed) {
        this.seed = seed;
        random = new Random(seed);
        for (int[] call : calls) {
            fill(call);
        }
    }

    public static void main(String[] args) {
        for (int seed = 0; seed < ROUNDS; seed++) {
            WildCallsTest test = new WildCallsTest(seed);
            test.refusedOnesChangeNothing();
            for (int many = 0; many <= CALLS; many += 7) {
                leavesFit(test.playedTo(many));
                epochsFit(test.playedTo(many));
                workersFit(test.playedTo(many));
            }
        }
        Check.end();
    }

    private int below(int bound) {
        return random.nextInt(60) == 0 ? WILD[random.nextInt(WILD.length)] : random.nextInt(bound);
    }

    private void fill(int[] call) {
        call[0] = random.nextInt(60);
        boolean codes = call[0] < 12;
        call[1] = below(4);
        call[2] = below(codes ? 12 : call[0] < 22 ? 4 : 101);
        call[3] = below(codes ? 8 : 32);
        call[4] = codes && random.nextBoolean() ? 0 : below(32);
        call[5] = below(4);
    }

    private static int answer(EpochLeaves x, int[] call) {
        int kind = call[0];
        if (kind < 12) {
            return x.code(call[1], call[2], call[3], call[4], call[5]);
        }
        if (kind == 12) {
            return x.clear(call[1]) ? 1 : -1;
        }
        if (kind < 22) {
            return x.start(call[1], call[2], call[3], call[4]);
        }
        if (kind < 40) {
            return x.step(call[1]);
        }
        if (kind < 50) {
            return x.run(call[1], call[2]);
        }
        if (kind < 54) {
            return x.advance();
        }
        return kind < 59 ? x.flush(call[1]) : x.crash();
    }

    private EpochLeaves playedTo(int many) {
        EpochLeaves x = new EpochLeaves();
        for (int i = 0; i < many; i++) {
            answer(x, calls[i]);
        }
        return x;
    }

    private void refusedOnesChangeNothing() {
        EpochLeaves x = new EpochLeaves();
        for (int i = 0; i < CALLS; i++) {
            int[] call = calls[i];
            int before = i;
            int got = answer(x, call);
            if (got < 0) {
                Twin.refused("call " + i + " of round " + seed, () -> playedTo(before), y -> answer(y, call), got);
            }
        }
    }

    private static void leavesFit(EpochLeaves x) {
        int records = 0;
        for (int key = 0; key < 32; key++) {
            records += x.entry(key, 0) == 0 ? 0 : 1;
        }
        int inLeaves = 0;
        int place = 0;
        int lastLeast = -2;
        while (x.leaf(place, 0) != EpochLeaves.BAD) {
            int many = x.leaf(place, 2);
            Check.due("records in a leaf", many <= 4 && (place == 0 || many >= 2), true);
            Check.due("leaves ascend", x.leaf(place, 3) > lastLeast, true);
            lastLeast = x.leaf(place, 3);
            inLeaves += many;
            place++;
        }
        Check.due("records in all leaves", inLeaves, records);
    }

    private static void epochsFit(EpochLeaves x) {
        int least = Integer.MAX_VALUE;
        int epoch = x.epoch(0);
        for (int w = 0; w < 4; w++) {
            int mark = x.log(w, 2);
            least = Math.min(least, mark);
            Check.due("no more durable than kept", x.log(w, 1) <= x.log(w, 0), true);
            Check.due("a mark lies below the epoch", mark < epoch, true);
        }
        int durable = x.epoch(1);
        Check.due("the durable epoch", durable, least);
        int status = x.transaction(1, 0);
        for (int t = 1; status != EpochLeaves.BAD; t++) {
            int stamp = x.transaction(t, 1);
            Check.due("stamped when committed", stamp != 0, status == 2 || status == 3);
            if (stamp != 0) {
                Check.due("released when durable", status == 3, stamp / 1024 <= durable);
            } else {
                Check.due("no result", x.result(t), 0);
            }
            status = x.transaction(t + 1, 0);
        }
    }

    private static void workersFit(EpochLeaves x) {
        for (int key = 0; key < 32; key++) {
            int lock = x.entry(key, 3);
            Check.due("a locker is LOCKING or later", lock == 0 || x.worker(lock - 1, 0) >= 2, true);
        }
        for (int w = 0; w < 4; w++) {
            int t = x.worker(w, 1);
            Check.due("what a worker has runs", t == 0 || x.transaction(t, 0) == 1, true);
        }
    }
}
