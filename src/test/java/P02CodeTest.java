/** Promise 2: code appends an instruction when all its numbers are as said. */
final class P02CodeTest {
    // For each op: least a, greatest a, least b, greatest b, greatest c (its least is 0).
    private static final int[][] RANGES = {
        {0, 7, -1000, 1000, 0}, {0, 7, 0, 7, 7}, {0, 7, 0, 7, 7}, {0, 7, 0, 7, 7}, {0, 7, 0, 7, 7}, {0, 7, 0, 15, 0},
        {0, 6, 0, 7, 0}, {0, 7, 0, 7, 0}, {0, 7, 0, 0, 0}, {0, 6, 0, 7, 7}, {0, 7, 0, 0, 0}, {0, 0, 0, 0, 0}};
    private static final int[] WILD = {
        Integer.MIN_VALUE, -1001, -1000, -999, -1, 0, 1, 5, 6, 7, 8, 14, 15, 16, 999, 1000, 1001, Integer.MAX_VALUE};

    public static void main(String[] args) {
        for (int op = 0; op < 12; op++) {
            for (int a : WILD) {
                for (int b : WILD) {
                    for (int c : WILD) {
                        one(op, a, b, c);
                    }
                }
            }
        }
        wrongProceduresAndOps();
        sixteenFit();
        whatIsAppendedIsRun();
        appendedWhileItRuns();
        Check.end();
    }

    private static void one(int op, int a, int b, int c) {
        int[] range = RANGES[op];
        boolean fits = a >= range[0] && a <= range[1] && b >= range[2] && b <= range[3] && c >= 0 && c <= range[4];
        EpochLeaves x = new EpochLeaves();
        String call = "code(1, " + op + ", " + a + ", " + b + ", " + c + ")";
        Check.due(call, x.code(1, op, a, b, c), fits ? 0 : EpochLeaves.BAD);
        Check.due("the code behind " + call, x.code(1, 0, 0, 0, 0), fits ? 1 : 0);
    }

    private static void wrongProceduresAndOps() {
        EpochLeaves x = new EpochLeaves();
        for (int p : new int[] {Integer.MIN_VALUE, -1, 4, 5, Integer.MAX_VALUE}) {
            Check.due("code of procedure " + p, x.code(p, 0, 0, 0, 0), EpochLeaves.BAD);
        }
        for (int op : new int[] {Integer.MIN_VALUE, -1, 12, 13, Integer.MAX_VALUE}) {
            Check.due("code of op " + op, x.code(0, op, 0, 0, 0), EpochLeaves.BAD);
        }
    }

    private static void sixteenFit() {
        EpochLeaves x = new EpochLeaves();
        for (int i = 0; i < 16; i++) {
            Check.due("code number " + i, x.code(3, Check.SET, 0, i, 0), i);
        }
        Check.due("code number 16", x.code(3, Check.SET, 0, 0, 0), EpochLeaves.BAD);
        Check.due("code of another", x.code(2, Check.SET, 0, 0, 0), 0);
        x.start(0, 3, 0, 0);
        Check.due("16 steps", x.run(0, 16), 1);
        Check.due("the last SET", x.register(0, 0), 15);
        Check.due("it is behind the last", x.worker(0, 2), 16);
        Check.due("it still runs", x.worker(0, 0), 1);
        Check.due("it ends", x.run(0, 100), 2);
    }

    private static void whatIsAppendedIsRun() {
        EpochLeaves x = new EpochLeaves();
        x.code(0, Check.SET, 2, -1000, 0);
        x.code(0, Check.SET, 3, 1000, 0);
        x.start(0, 0, 0, 0);
        x.run(0, 2);
        Check.due("SET -1000", x.register(0, 2), -1000);
        Check.due("SET 1000", x.register(0, 3), 1000);
    }

    private static void appendedWhileItRuns() {
        EpochLeaves x = new EpochLeaves();
        x.start(0, 0, 0, 0);
        Check.due("code while it runs", x.code(0, Check.SET, 4, 9, 0), 0);
        Check.due("step", x.step(0), 1);
        Check.due("register(0, 4)", x.register(0, 4), 9);
        Check.due("it still runs", x.worker(0, 0), 1);
    }
}
