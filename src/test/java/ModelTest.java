import java.util.Random;

/** Random calls, 512 on each object, with right and wrong numbers: every answer is that of the model. */
final class ModelTest {
    private static final int OBJECTS = 4000;
    private static final int CALLS = 512;
    private static final int MOST_TOLD = 20;

    private static final int CODE = 0;
    private static final int CLEAR = 1;
    private static final int START = 2;
    private static final int STEP = 3;
    private static final int RUN = 4;
    private static final int ADVANCE = 5;
    private static final int FLUSH = 6;
    private static final int CRASH = 7;
    private static final int TRANSACTION = 8;
    private static final int RESULT = 9;
    private static final int ENTRY = 10;
    private static final int LEAF = 11;
    private static final int WORKER = 12;
    private static final int REGISTER = 13;
    private static final int LOG = 14;
    private static final int EPOCH = 15;
    private static final String[] NAMES = {"code", "clear", "start", "step", "run", "advance", "flush", "crash",
        "transaction", "result", "entry", "leaf", "worker", "register", "log", "epoch"};
    // How often each call comes, in parts of their sum.
    private static final int[] WEIGHTS = {6, 1, 40, 60, 50, 8, 16, 1, 12, 8, 40, 24, 40, 12, 10, 3};

    // Procedures that go well together: they read and write near r0 and r1.
    private static final int[][][] GOOD = {
        {{6, 2, 0, 0}, {1, 2, 2, 1}, {7, 0, 2, 0}, {10, 2, 0, 0}},
        {{7, 0, 1, 0}, {10, 1, 0, 0}},
        {{9, 2, 0, 1}, {7, 1, 2, 0}, {10, 7, 0, 0}},
        {{8, 0, 0, 0}, {6, 3, 1, 0}, {10, 3, 0, 0}},
        {{0, 2, 1, 0}, {7, 0, 1, 0}, {1, 0, 0, 2}, {7, 0, 1, 0}, {1, 0, 0, 2}, {7, 0, 1, 0}, {10, 0, 0, 0}},
        {{0, 3, 31, 0}, {9, 2, 4, 3}, {7, 0, 7, 0}, {7, 1, 2, 0}},
        {{6, 2, 0, 0}, {5, 7, 4, 0}, {8, 0, 0, 0}, {7, 1, 2, 0}, {10, 2, 0, 0}},
        {{0, 2, 1, 0}, {7, 0, 1, 0}, {2, 0, 0, 2}, {5, 0, 15, 0}, {5, 4, 1, 0}},
        {{6, 3, 0, 0}, {6, 4, 1, 0}, {6, 5, 3, 0}, {7, 0, 4, 0}, {7, 1, 3, 0}},
    };
    private static final int[] WILD = {Integer.MIN_VALUE, -1001, -1000, -2, -1, 0, 1, 2, 3, 4, 5, 6, 7, 8, 11, 12, 15,
        16, 31, 32, 99, 100, 101, 1000, 1001, Integer.MAX_VALUE};

    private final Random random;
    private final EpochLeaves x = new EpochLeaves();
    private final Model model = new Model();
    private final int object;
    private final int keys;
    private int calls;

    private ModelTest(int object) {
        this.object = object;
        random = new Random(object);
        // Few keys make workers meet, many make leaves split.
        keys = object % 3 == 0 ? 4 : object % 3 == 1 ? 12 : 33;
    }

    public static void main(String[] args) {
        int wrong = 0;
        for (int object = 0; object < OBJECTS && wrong < MOST_TOLD; object++) {
            wrong += new ModelTest(object).play() ? 0 : 1;
        }
        Check.end();
    }

    private boolean play() {
        boolean same = true;
        for (int p = 0; p < 4 && same; p++) {
            same = codeOne(p);
        }
        while (same && calls < CALLS) {
            same = compare(anyCall());
        }
        return same;
    }

    private boolean codeOne(int p) {
        int[][] rows = random.nextInt(3) > 0 ? GOOD[random.nextInt(GOOD.length)] : anyRows();
        boolean same = true;
        for (int i = 0; i < rows.length && same; i++) {
            same = compare(new int[] {CODE, p, rows[i][0], rows[i][1], rows[i][2], rows[i][3]});
        }
        return same;
    }

    private int[][] anyRows() {
        int[][] rows = new int[1 + random.nextInt(16)][];
        for (int i = 0; i < rows.length; i++) {
            int op = random.nextInt(12);
            rows[i] = new int[] {op, random.nextInt(8), op == 8 || op == 10 ? 0 : random.nextInt(8),
                op >= 1 && op <= 4 || op == 9 ? random.nextInt(8) : 0};
        }
        return rows;
    }

    private int pick(int bound) {
        return random.nextInt(40) == 0 ? WILD[random.nextInt(WILD.length)] : random.nextInt(bound);
    }

    private int[] anyCall() {
        int kind = anyKind();
        switch (kind) {
            case CODE: return new int[] {kind, pick(4), pick(12), pick(8), random.nextBoolean() ? 0 : pick(8), pick(2)};
            case START: return new int[] {kind, pick(4), pick(4), pick(keys), pick(keys)};
            case RUN: return new int[] {kind, pick(4), random.nextInt(3) == 0 ? pick(101) : 1 + random.nextInt(5)};
            case TRANSACTION: return new int[] {kind, pick(101), pick(2)};
            case RESULT: return new int[] {kind, pick(101)};
            case ENTRY: return new int[] {kind, pick(keys), pick(4)};
            case LEAF: return new int[] {kind, pick(1 + keys / 3), pick(4)};
            case WORKER: return new int[] {kind, pick(4), pick(7)};
            case REGISTER: return new int[] {kind, pick(4), pick(8)};
            case LOG: return new int[] {kind, pick(4), pick(3)};
            case EPOCH: return new int[] {kind, pick(2)};
            default: return new int[] {kind, pick(4)};
        }
    }

    private int anyKind() {
        int sum = 0;
        for (int weight : WEIGHTS) {
            sum += weight;
        }
        int at = random.nextInt(sum);
        int kind = 0;
        while (at >= WEIGHTS[kind]) {
            at -= WEIGHTS[kind];
            kind++;
        }
        return kind;
    }

    private boolean compare(int[] call) {
        calls++;
        int want = ofModel(call);
        int got = ofClass(call);
        if (got != want) {
            StringBuilder text = new StringBuilder("object " + object + ", call " + calls + ": " + NAMES[call[0]]);
            for (int i = 1; i < call.length; i++) {
                text.append(" ").append(call[i]);
            }
            Check.due(text.toString(), got, want);
        }
        return got == want;
    }

    private int ofClass(int[] n) {
        switch (n[0]) {
            case CODE: return x.code(n[1], n[2], n[3], n[4], n[5]);
            case CLEAR: return x.clear(n[1]) ? 1 : 0;
            case START: return x.start(n[1], n[2], n[3], n[4]);
            case STEP: return x.step(n[1]);
            case RUN: return x.run(n[1], n[2]);
            case ADVANCE: return x.advance();
            case FLUSH: return x.flush(n[1]);
            case CRASH: return x.crash();
            case TRANSACTION: return x.transaction(n[1], n[2]);
            case RESULT: return x.result(n[1]);
            case ENTRY: return x.entry(n[1], n[2]);
            case LEAF: return x.leaf(n[1], n[2]);
            case WORKER: return x.worker(n[1], n[2]);
            case REGISTER: return x.register(n[1], n[2]);
            case LOG: return x.log(n[1], n[2]);
            default: return x.epoch(n[1]);
        }
    }

    private int ofModel(int[] n) {
        switch (n[0]) {
            case CODE: return model.code(n[1], n[2], n[3], n[4], n[5]);
            case CLEAR: return model.clear(n[1]);
            case START: return model.start(n[1], n[2], n[3], n[4]);
            case STEP: return model.step(n[1]);
            case RUN: return model.run(n[1], n[2]);
            case ADVANCE: return model.advance();
            case FLUSH: return model.flush(n[1]);
            case CRASH: return model.crash();
            case TRANSACTION: return model.transaction(n[1], n[2]);
            case RESULT: return model.result(n[1]);
            case ENTRY: return model.entry(n[1], n[2]);
            case LEAF: return model.leaf(n[1], n[2]);
            case WORKER: return model.worker(n[1], n[2]);
            case REGISTER: return model.register(n[1], n[2]);
            case LOG: return model.log(n[1], n[2]);
            default: return model.epoch(n[1]);
        }
    }
}
