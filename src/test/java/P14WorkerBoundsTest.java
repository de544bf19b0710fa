/** Promise 14, its edges: the first and the last worker, those beside them, the seven questions in each state. */
final class P14WorkerBoundsTest {
    public static void main(String[] args) {
        otherWorkers();
        otherQuestions();
        idle();
        everyState();
        theNextInstruction();
        epochOnlyBehindTheFence();
        countsOfWhatIsKept();
        theMostThatIsKept();
        Check.end();
    }

    private static void otherWorkers() {
        for (int w : new int[] {Integer.MIN_VALUE, -1, 4, Integer.MAX_VALUE}) {
            for (int what = 0; what < 7; what++) {
                int each = what;
                Twin.refusedAnywhere("worker(" + w + ", " + what + ")", x -> x.worker(w, each), EpochLeaves.BAD);
            }
        }
    }

    private static void otherQuestions() {
        for (int what : new int[] {Integer.MIN_VALUE, -1, 7, Integer.MAX_VALUE}) {
            for (int w = -1; w <= 4; w++) {
                int each = w;
                Twin.refusedAnywhere("worker(" + w + ", " + what + ")", x -> x.worker(each, what), EpochLeaves.BAD);
            }
        }
    }

    private static void idle() {
        EpochLeaves x = Made.busy();
        x.run(3, 100);
        row(x, 3, 0, 0, 0, 0, 0, 0, 0);
        x.crash();
        for (int w = 0; w < 4; w++) {
            row(x, w, 0, 0, 0, 0, 0, 0, 0);
        }
    }

    private static void everyState() {
        EpochLeaves x = Made.busy();
        row(x, 0, 1, 10, 1, 0, 0, 1, 0);
        row(x, 1, 2, 11, 0, 0, 1, 0, 0);
        row(x, 2, 3, 12, 0, 3, 1, 0, 0);
        row(x, 3, 4, 13, 0, 3, 1, 0, 0);
    }

    private static void row(EpochLeaves x, int w, int... want) {
        for (int what = 0; what < 7; what++) {
            Check.due("worker(" + w + ", " + what + ")", x.worker(w, what), want[what]);
        }
    }

    private static void theNextInstruction() {
        EpochLeaves x = Made.withSixteen();
        x.start(0, 2, 0, 0);
        for (int next = 0; next <= 16; next++) {
            Check.due("the next one", x.worker(0, 2), next);
            Check.due("its step", x.step(0), 1);
        }
        Check.due("LOCKING", x.worker(0, 0), 2);
        Check.due("no next one", x.worker(0, 2), 0);
    }

    private static void epochOnlyBehindTheFence() {
        EpochLeaves x = Check.withProcedures();
        x.advance();
        x.start(0, 1, 9, 1);
        int[] want = {0, 0, 0, 0, 2, 2, 2, 0};
        for (int steps = 0; steps <= 7; steps++) {
            Check.due("its epoch behind " + steps + " steps", x.worker(0, 3), want[steps]);
            x.step(0);
        }
    }

    private static void countsOfWhatIsKept() {
        EpochLeaves x = Check.withProcedures();
        Check.commit(x, 1, 1, 9, 1);
        Check.commit(x, 1, 3, 10, 1);
        x.clear(3);
        x.code(3, Check.GET, 2, 0, 0);
        x.code(3, Check.GET, 2, 0, 0);
        x.code(3, Check.GET, 2, 2, 0);
        x.code(3, Check.GET, 2, 3, 0);
        x.code(3, Check.PUT, 0, 1, 0);
        x.code(3, Check.DROP, 0, 0, 0);
        x.code(3, Check.PUT, 1, 1, 0);
        x.code(3, Check.SUM, 4, 3, 1);
        x.start(0, 3, 9, 10);
        int[][] want = {{0, 1, 0}, {0, 1, 0}, {0, 1, 1}, {0, 1, 1}, {1, 1, 1}, {1, 1, 1}, {2, 1, 1}, {2, 1, 1}};
        for (int i = 0; i < want.length; i++) {
            Check.due("a step", x.step(0), 1);
            for (int k = 0; k < 3; k++) {
                Check.due("behind " + (i + 1) + " steps: worker(0, " + (4 + k) + ")", x.worker(0, 4 + k), want[i][k]);
            }
        }
    }

    private static void theMostThatIsKept() {
        EpochLeaves x = Check.withProcedures();
        for (int key = 31; key >= 0; key--) {
            Check.commit(x, 0, 1, key, 0);
        }
        x.start(1, 2, 0, 31);
        x.step(1);
        Check.due("all records", x.worker(1, 5), 32);
        Check.due("all leaves", x.worker(1, 6), 15);
        Check.due("no writes", x.worker(1, 4), 0);
        x.run(1, 100);
        x.start(1, 2, 31, 31);
        x.step(1);
        Check.due("one record", x.worker(1, 5), 1);
        Check.due("one leaf", x.worker(1, 6), 1);
    }
}
