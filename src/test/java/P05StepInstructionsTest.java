/** Promise 5, while a worker is RUNNING: what each instruction does. */
final class P05StepInstructionsTest {
    public static void main(String[] args) {
        refuses();
        reckons();
        goesOnElsewhere();
        gets();
        getsItsOwnWrites();
        sums();
        sumsWithinBounds();
        abortsOnWrongKeys();
        abortsBehindSixty();
        endsBehindItsLast();
        blocked();
        Check.end();
    }

    private static void refuses() {
        EpochLeaves x = Check.withProcedures();
        for (int w : new int[] {Integer.MIN_VALUE, -1, 4, Integer.MAX_VALUE}) {
            Check.due("step(" + w + ")", x.step(w), EpochLeaves.BAD);
        }
        Check.due("step of an idle worker", x.step(3), EpochLeaves.BUSY);
    }

    private static void reckons() {
        int[][] pairs = {{5, 7}, {7, 5}, {5, 5}, {-3, 2}, {Integer.MAX_VALUE, 1}, {Integer.MIN_VALUE, 1},
            {Integer.MIN_VALUE, Integer.MAX_VALUE}, {65536, 65536}, {0, -1}};
        for (int[] pair : pairs) {
            EpochLeaves x = new EpochLeaves();
            for (int op = Check.ADD; op <= Check.LESS; op++) {
                x.code(0, op, op + 1, 0, 1);
            }
            x.start(0, 0, pair[0], pair[1]);
            Check.due("four steps", x.run(0, 4), 1);
            String of = " of " + pair[0] + " and " + pair[1];
            Check.due("ADD" + of, x.register(0, 2), pair[0] + pair[1]);
            Check.due("SUB" + of, x.register(0, 3), pair[0] - pair[1]);
            Check.due("MUL" + of, x.register(0, 4), pair[0] * pair[1]);
            Check.due("LESS" + of, x.register(0, 5), pair[0] < pair[1] ? 1 : 0);
        }
    }

    private static void goesOnElsewhere() {
        EpochLeaves x = new EpochLeaves();
        x.code(0, Check.ZERO, 0, 2, 0);
        x.code(0, Check.SET, 2, 5, 0);
        x.code(0, Check.ZERO, 1, 15, 0);
        x.code(0, Check.SET, 3, 6, 0);
        x.start(0, 0, 0, 0);
        x.step(0);
        Check.due("ZERO of 0", x.worker(0, 2), 2);
        x.step(0);
        Check.due("ZERO goes behind the last", x.worker(0, 2), 15);
        x.step(0);
        Check.due("it gave", x.worker(0, 0), 2);
        Check.due("r2", x.register(0, 2), 0);
        x.start(1, 0, 1, -1);
        x.step(1);
        Check.due("ZERO of 1", x.worker(1, 2), 1);
        x.run(1, 2);
        Check.due("ZERO of -1", x.worker(1, 2), 3);
        Check.due("r2 was set", x.register(1, 2), 5);
    }

    private static void gets() {
        EpochLeaves x = Check.withProcedures();
        Check.commit(x, 0, 1, 3, 40);
        Check.commit(x, 0, 1, 4, 0);
        Check.commit(x, 0, 3, 5, 0);
        x.clear(1);
        x.code(1, Check.SET, 2, 9, 0);
        x.code(1, Check.SET, 7, 9, 0);
        x.code(1, Check.GET, 2, 0, 0);
        int[][] seen = {{3, 40, 1, 1, 0}, {4, 0, 1, 1, 0}, {5, 0, 0, 1, 0}, {6, 0, 0, 0, 1}, {31, 0, 0, 0, 1}};
        for (int[] row : seen) {
            x.start(1, 1, row[0], 0);
            x.run(1, 3);
            Check.due("GET of " + row[0], x.register(1, 2), row[1]);
            Check.due("r7 of " + row[0], x.register(1, 7), row[2]);
            Check.due("reads of " + row[0], x.worker(1, 5), row[3]);
            Check.due("nodes of " + row[0], x.worker(1, 6), row[4]);
            x.run(1, 100);
        }
        getsByTheFoundRegister();
    }

    private static void getsByTheFoundRegister() {
        EpochLeaves x = Check.withProcedures();
        Check.commit(x, 0, 1, 3, 40);
        x.clear(1);
        x.code(1, Check.ADD, 7, 0, 1);
        x.code(1, Check.GET, 0, 7, 0);
        x.start(0, 1, 1, 2);
        x.run(0, 2);
        Check.due("GET of the key in r7", x.register(0, 0), 40);
        Check.due("r7 then", x.register(0, 7), 1);
    }

    private static void getsItsOwnWrites() {
        EpochLeaves x = Check.withProcedures();
        Check.commit(x, 0, 1, 3, 40);
        x.clear(1);
        x.code(1, Check.PUT, 0, 1, 0);
        x.code(1, Check.GET, 2, 0, 0);
        x.code(1, Check.DROP, 0, 0, 0);
        x.code(1, Check.GET, 3, 0, 0);
        x.code(1, Check.PUT, 0, 0, 0);
        x.start(0, 1, 3, 77);
        x.run(0, 2);
        Check.due("GET behind PUT", x.register(0, 2), 77);
        Check.due("r7 behind PUT", x.register(0, 7), 1);
        x.run(0, 2);
        Check.due("GET behind DROP", x.register(0, 3), 0);
        Check.due("r7 behind DROP", x.register(0, 7), 0);
        Check.due("one write", x.worker(0, 4), 1);
        Check.due("no reads", x.worker(0, 5), 0);
        Check.due("no nodes", x.worker(0, 6), 0);
        x.step(0);
        Check.due("one write still", x.worker(0, 4), 1);
        Check.due("the record is as it was", x.entry(3, 1), 40);
        x.run(0, 100);
        Check.due("the last write counts", x.entry(3, 1), 3);
    }

    private static void sums() {
        EpochLeaves x = Check.withProcedures();
        Check.commit(x, 0, 1, 3, Integer.MAX_VALUE);
        Check.commit(x, 0, 1, 9, 1);
        Check.commit(x, 0, 1, 12, 0);
        Check.commit(x, 0, 3, 14, 0);
        x.start(1, 2, 3, 9);
        x.step(1);
        Check.due("the sum wraps", x.register(1, 2), Integer.MIN_VALUE);
        Check.due("two of them", x.register(1, 7), 2);
        Check.due("two reads", x.worker(1, 5), 2);
        Check.due("one node", x.worker(1, 6), 1);
        x.run(1, 100);
        x.start(1, 2, 4, 14);
        x.step(1);
        Check.due("from 4 to 14", x.register(1, 2), 1);
        Check.due("9 and 12", x.register(1, 7), 2);
        Check.due("the absent one is read", x.worker(1, 5), 3);
        sumsItsOwnWrites(x);
        keepsLeavesWhereAllIsWritten();
    }

    private static void sumsItsOwnWrites(EpochLeaves x) {
        x.clear(1);
        x.code(1, Check.DROP, 0, 0, 0);
        x.code(1, Check.PUT, 1, 1, 0);
        x.code(1, Check.SET, 3, 0, 0);
        x.code(1, Check.SET, 4, 13, 0);
        x.code(1, Check.SUM, 2, 3, 4);
        x.start(0, 1, 3, 5);
        x.run(0, 5);
        Check.due("sum with own writes", x.register(0, 2), 6);
        Check.due("5, 9 and 12", x.register(0, 7), 3);
        Check.due("own writes are not read", x.worker(0, 5), 2);
    }

    private static void keepsLeavesWhereAllIsWritten() {
        EpochLeaves x = new EpochLeaves();
        x.code(0, Check.PUT, 0, 1, 0);
        x.code(0, Check.SUM, 2, 0, 0);
        x.start(0, 0, 8, 5);
        x.run(0, 2);
        Check.due("sum of the own write", x.register(0, 2), 5);
        Check.due("its leaf is a node all the same", x.worker(0, 6), 1);
        Check.due("nothing is read", x.worker(0, 5), 0);
    }

    private static void sumsWithinBounds() {
        EpochLeaves x = Check.withProcedures();
        for (int key = 0; key < 32; key += 31) {
            Check.commit(x, 0, 1, key, key + 1);
        }
        int[][] rows = {{Integer.MIN_VALUE, Integer.MAX_VALUE, 33, 2, 1}, {-1, 0, 1, 1, 1}, {31, 32, 32, 1, 1},
            {1, 30, 0, 0, 1}, {5, 4, 0, 0, 0}, {32, 40, 0, 0, 0}, {-9, -1, 0, 0, 0},
            {Integer.MAX_VALUE, Integer.MAX_VALUE, 0, 0, 0}, {Integer.MAX_VALUE, Integer.MIN_VALUE, 0, 0, 0}};
        for (int[] row : rows) {
            x.start(1, 2, row[0], row[1]);
            Check.due("its step", x.step(1), 1);
            String of = " of " + row[0] + " to " + row[1];
            Check.due("sum" + of, x.register(1, 2), row[2]);
            Check.due("r7" + of, x.register(1, 7), row[3]);
            Check.due("nodes" + of, x.worker(1, 6), row[4]);
            Check.due("its end", x.run(1, 100), 2);
        }
    }

    private static void abortsOnWrongKeys() {
        for (int key : new int[] {Integer.MIN_VALUE, -1, 32, Integer.MAX_VALUE}) {
            for (int op = Check.GET; op <= Check.DROP; op++) {
                EpochLeaves x = new EpochLeaves();
                x.code(0, op, 0, 0, 0);
                x.start(0, 0, key, 0);
                Check.due("op " + op + " of key " + key, x.step(0), 3);
                Check.due("it is aborted", x.transaction(1, 0), 4);
                Check.due("its worker is idle", x.worker(0, 0), 0);
            }
        }
    }

    private static void abortsBehindSixty() {
        EpochLeaves x = new EpochLeaves();
        x.code(0, Check.ZERO, 2, 0, 0);
        x.start(0, 0, 0, 0);
        Check.due("60 instructions", x.run(0, 60), 1);
        Check.due("one more", x.step(0), 3);
        Check.due("it is aborted", x.transaction(1, 0), 4);
        // 15 times four instructions: the 60th is the ZERO that leads behind the last one.
        EpochLeaves y = new EpochLeaves();
        y.code(0, Check.SET, 2, 1, 0);
        y.code(0, Check.SUB, 0, 0, 2);
        y.code(0, Check.ZERO, 0, 4, 0);
        y.code(0, Check.ZERO, 3, 0, 0);
        y.start(0, 0, 15, 0);
        Check.due("59 instructions end it", y.run(0, 59), 1);
        Check.due("it is behind its last", y.worker(0, 2), 4);
        y.code(0, Check.SET, 4, 1, 0);
        Check.due("the 60th", y.step(0), 1);
        Check.due("60 were done, then it gives", y.step(0), 1);
        Check.due("it is LOCKING", y.worker(0, 0), 2);
        y.code(0, Check.GIVE, 4, 0, 0);
        y.start(1, 0, 15, 0);
        Check.due("60 again", y.run(1, 60), 1);
        Check.due("the GIVE is the 61st", y.step(1), 3);
    }

    private static void endsBehindItsLast() {
        EpochLeaves x = new EpochLeaves();
        x.code(0, Check.SET, 0, 5, 0);
        int t = x.start(0, 0, 1, 1);
        x.step(0);
        Check.due("RUNNING behind the last", x.worker(0, 0), 1);
        Check.due("the giving step", x.step(0), 1);
        Check.due("LOCKING", x.worker(0, 0), 2);
        x.run(0, 100);
        x.advance();
        Check.flushAll(x);
        Check.due("released", x.transaction(t, 0), 3);
        Check.due("its result", x.result(t), 0);
    }

    private static void blocked() {
        EpochLeaves x = Check.withProcedures();
        Check.commit(x, 0, 1, 3, 40);
        x.start(0, 1, 3, 41);
        x.run(0, 3);
        Check.due("3 is locked", x.entry(3, 3), 1);
        x.start(1, 0, 3, 1);
        x.start(2, 2, 0, 31);
        x.start(3, 2, 4, 31);
        Check.due("GET", x.step(1), 0);
        Check.due("SUM", x.step(2), 0);
        Check.due("SUM beside it", x.step(3), 1);
        Check.due("GET did nothing", x.worker(1, 2) + x.worker(1, 5) + x.register(1, 7), 0);
        Check.due("SUM did nothing", x.worker(2, 2) + x.worker(2, 5) + x.worker(2, 6), 0);
        for (int i = 0; i < 70; i++) {
            Check.due("a blocked step is no instruction", x.step(1), 0);
        }
        x.run(0, 100);
        Check.due("GET then", x.step(1), 1);
        Check.due("its value", x.register(1, 2), 41);
        Check.due("SUM then", x.step(2), 1);
        Check.due("its sum", x.register(2, 2), 41);
        ownWritesAreNotBlocked();
        blockedAtTheEnds();
    }

    private static void blockedAtTheEnds() {
        EpochLeaves x = Check.withProcedures();
        x.start(0, 1, 3, 41);
        x.run(0, 3);
        int[][] rows = {{3, 9, 0}, {0, 3, 0}, {3, 3, 0}, {0, 2, 1}, {4, 9, 1}};
        for (int[] row : rows) {
            x.start(1, 2, row[0], row[1]);
            Check.due("SUM of " + row[0] + " to " + row[1], x.step(1), row[2]);
            x.crash();
            x.start(0, 1, 3, 41);
            x.run(0, 3);
        }
    }

    private static void ownWritesAreNotBlocked() {
        EpochLeaves x = Check.withProcedures();
        Check.commit(x, 0, 1, 3, 40);
        x.clear(3);
        x.code(3, Check.PUT, 0, 1, 0);
        x.code(3, Check.GET, 2, 0, 0);
        x.code(3, Check.SUM, 3, 0, 0);
        x.start(0, 1, 3, 41);
        x.run(0, 3);
        x.start(1, 3, 3, 50);
        Check.due("PUT, GET and SUM of a key that another has locked", x.run(1, 3), 1);
        Check.due("GET", x.register(1, 2), 50);
        Check.due("SUM", x.register(1, 3), 50);
    }
}
