/** Promise 4, its edges: which workers and procedures there are, idle or not, and the 100th transaction. */
final class P04StartBoundsTest {
    public static void main(String[] args) {
        noSuchWorker();
        noSuchProcedure();
        firstAndLastOfBoth();
        refusedWhenNotIdle();
        the101stIsRefused();
        badThenBusyThenFull();
        a100thTransactionRunsToItsEnd();
        numbersGoOnBehindACrash();
        anyInts();
        registersBegin();
        Check.end();
    }

    private static void noSuchWorker() {
        for (int w : new int[] {Integer.MIN_VALUE, -1, 4, Integer.MAX_VALUE}) {
            Twin.refusedAnywhere("start(" + w + ", 0, 1, 2)", x -> x.start(w, 0, 1, 2), EpochLeaves.BAD);
        }
    }

    private static void noSuchProcedure() {
        for (int p : new int[] {Integer.MIN_VALUE, -1, 4, Integer.MAX_VALUE}) {
            Twin.refusedAnywhere("start(0, " + p + ", 1, 2)", x -> x.start(0, p, 1, 2), EpochLeaves.BAD);
        }
    }

    private static void firstAndLastOfBoth() {
        EpochLeaves x = Check.withProcedures();
        Check.due("start(0, 3)", x.start(0, 3, 4, 0), 1);
        Check.due("start(3, 0)", x.start(3, 0, 4, 0), 2);
        Check.due("its transaction", x.worker(0, 1), 1);
        Check.due("its transaction", x.worker(3, 1), 2);
        x.step(0);
        Check.due("procedure 3 drops", x.worker(0, 4), 1);
        x.step(3);
        Check.due("procedure 0 gets", x.worker(3, 6), 1);
    }

    private static void refusedWhenNotIdle() {
        for (int w = 0; w < 4; w++) {
            int each = w;
            Twin.refused("start of worker " + w + " that is not idle", Made::busy, x -> x.start(each, 1, 2, 3),
                    EpochLeaves.BUSY);
        }
        EpochLeaves x = Made.busy();
        x.run(3, 100);
        Check.due("start behind its commit", x.start(3, 1, 2, 3), 14);
    }

    private static void the101stIsRefused() {
        for (int w : new int[] {0, 2, 3}) {
            Twin.refused("start of worker " + w + " behind 100", Made::full, x -> x.start(w, 0, 1, 2),
                    EpochLeaves.FULL);
        }
        EpochLeaves x = Made.full();
        Check.due("number 100 is there", x.transaction(100, 0), 1);
        Check.due("number 101 is not", x.transaction(101, 0), EpochLeaves.BAD);
        x.step(1);
        Check.due("still full when all are ended", x.start(1, 0, 0, 0), EpochLeaves.FULL);
        x.crash();
        Check.due("still full behind a crash", x.start(1, 0, 0, 0), EpochLeaves.FULL);
    }

    private static void badThenBusyThenFull() {
        Twin.refused("a wrong worker when full", Made::full, x -> x.start(4, 0, 0, 0), EpochLeaves.BAD);
        Twin.refused("a wrong procedure when full", Made::full, x -> x.start(0, 4, 0, 0), EpochLeaves.BAD);
        Twin.refused("a busy worker when full", Made::full, x -> x.start(1, 0, 0, 0), EpochLeaves.BUSY);
        Twin.refused("a busy worker with a wrong procedure", Made::busy, x -> x.start(0, -1, 0, 0), EpochLeaves.BAD);
    }

    private static void a100thTransactionRunsToItsEnd() {
        EpochLeaves x = Check.withProcedures();
        for (int t = 1; t <= 100; t++) {
            Check.due("start number " + t, x.start(0, 1, t % 32, t), t);
            Check.due("its run", x.run(0, 100), 2);
        }
        Check.due("start number 101", x.start(0, 1, 0, 0), EpochLeaves.FULL);
        Check.due("stamp of the 100th", x.transaction(100, 1), 1024 + 99);
        Check.due("all are in the log", x.log(0, 0), 100);
        x.advance();
        Check.due("all are released", Check.flushAll(x), 100);
        Check.due("result of the 100th", x.result(100), 100);
        Check.due("result of the first", x.result(1), 1);
    }

    private static void numbersGoOnBehindACrash() {
        EpochLeaves x = Check.withProcedures();
        x.start(0, 1, 3, 4);
        Check.commit(x, 1, 1, 5, 6);
        x.crash();
        Check.due("the next number", x.start(0, 1, 3, 4), 3);
    }

    private static void anyInts() {
        EpochLeaves x = new EpochLeaves();
        x.start(0, 0, Integer.MIN_VALUE, Integer.MAX_VALUE);
        Check.due("r0", x.register(0, 0), Integer.MIN_VALUE);
        Check.due("r1", x.register(0, 1), Integer.MAX_VALUE);
    }

    private static void registersBegin() {
        EpochLeaves x = new EpochLeaves();
        for (int r = 0; r < 8; r++) {
            x.code(0, Check.SET, r, 500 + r, 0);
        }
        x.start(2, 0, 0, 0);
        Check.due("all are set", x.run(2, 100), 2);
        x.start(2, 0, 11, 12);
        int[] want = {11, 12, 0, 0, 0, 0, 0, 0};
        for (int r = 0; r < 8; r++) {
            Check.due("r" + r + " of a second run", x.register(2, r), want[r]);
        }
        Check.due("it begins at the first instruction", x.worker(2, 2), 0);
    }
}
