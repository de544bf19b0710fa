/** Promise 4: start gives a worker a new transaction. */
final class P04StartTest {
    public static void main(String[] args) {
        begins();
        refuses();
        isFull();
        Check.end();
    }

    private static void begins() {
        EpochLeaves x = Check.withProcedures();
        Check.due("start", x.start(1, 0, 7, Integer.MIN_VALUE), 1);
        Check.due("r0", x.register(1, 0), 7);
        Check.due("r1", x.register(1, 1), Integer.MIN_VALUE);
        Check.due("worker(1, 0)", x.worker(1, 0), 1);
        Check.due("worker(1, 1)", x.worker(1, 1), 1);
        Check.due("worker(1, 2)", x.worker(1, 2), 0);
        Check.due("transaction(1, 0)", x.transaction(1, 0), 1);
        Check.due("the others are idle", x.worker(0, 0) + x.worker(2, 0) + x.worker(3, 0), 0);
        Check.due("its run", x.run(1, 100), 2);
        Check.due("a second start", x.start(1, 2, 0, 31), 2);
        x.step(1);
        x.run(1, 100);
        Check.due("a third start", x.start(1, 0, -5, -6), 3);
        for (int r = 2; r < 8; r++) {
            Check.due("r" + r + " is 0 again", x.register(1, r), 0);
        }
        for (int what = 2; what < 7; what++) {
            Check.due("nothing is kept of the last run: worker(1, " + what + ")", x.worker(1, what), 0);
        }
        instructionsAreCountedAnew();
    }

    private static void instructionsAreCountedAnew() {
        EpochLeaves x = new EpochLeaves();
        for (int i = 0; i < 16; i++) {
            x.code(0, Check.SET, 2, i, 0);
        }
        for (int i = 0; i < 10; i++) {
            Check.commit(x, 0, 0, 0, 0);
        }
    }

    private static void refuses() {
        EpochLeaves x = Check.withProcedures();
        for (int wild : new int[] {Integer.MIN_VALUE, -1, 4, Integer.MAX_VALUE}) {
            Check.due("start of worker " + wild, x.start(wild, 0, 0, 0), EpochLeaves.BAD);
            Check.due("start of procedure " + wild, x.start(0, wild, 0, 0), EpochLeaves.BAD);
        }
        x.start(0, 1, 3, 4);
        Check.due("start when RUNNING", x.start(0, 0, 8, 9), EpochLeaves.BUSY);
        Check.due("BAD comes before BUSY", x.start(0, 4, 8, 9), EpochLeaves.BAD);
        Check.due("r0 stays", x.register(0, 0), 3);
        x.run(0, 2);
        Check.due("start when LOCKING", x.start(0, 0, 8, 9), EpochLeaves.BUSY);
        x.run(0, 2);
        Check.due("start when FENCED", x.start(0, 0, 8, 9), EpochLeaves.BUSY);
        x.step(0);
        Check.due("start when INSTALLING", x.start(0, 0, 8, 9), EpochLeaves.BUSY);
        Check.due("its run", x.run(0, 100), 2);
        Check.due("refused starts take no number", x.start(0, 0, 8, 9), 2);
    }

    private static void isFull() {
        EpochLeaves x = new EpochLeaves();
        x.code(0, Check.FAIL, 0, 0, 0);
        for (int t = 1; t <= 99; t++) {
            Check.due("start number " + t, x.start(0, 0, 0, 0), t);
            Check.due("its step", x.step(0), 3);
        }
        Check.due("start number 100", x.start(1, 0, 0, 0), 100);
        Check.due("start number 101", x.start(0, 0, 0, 0), EpochLeaves.FULL);
        Check.due("BUSY comes before FULL", x.start(1, 0, 0, 0), EpochLeaves.BUSY);
        Check.due("BAD comes before FULL", x.start(4, 0, 0, 0), EpochLeaves.BAD);
        Check.due("worker 0 stays idle", x.worker(0, 0), 0);
        Check.due("transaction(101, 0)", x.transaction(101, 0), EpochLeaves.BAD);
        x.crash();
        Check.due("still full behind a crash", x.start(0, 0, 0, 0), EpochLeaves.FULL);
    }
}
