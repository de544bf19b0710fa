/** Promise 14: what is told of a worker, in each of its states. */
final class P14WorkerTest {
    public static void main(String[] args) {
        EpochLeaves x = Check.withProcedures();
        Check.commit(x, 0, 1, 3, 4);
        x.advance();
        x.clear(1);
        x.code(1, Check.GET, 2, 0, 0);
        x.code(1, Check.GET, 3, 1, 0);
        x.code(1, Check.PUT, 0, 1, 0);
        x.code(1, Check.DROP, 1, 0, 0);
        x.code(1, Check.GIVE, 0, 0, 0);
        x.start(1, 1, 3, 9);
        int[][] rows = {{1, 2, 0, 0, 0, 0, 0}, {1, 2, 1, 0, 0, 1, 0}, {1, 2, 2, 0, 0, 1, 1}, {1, 2, 3, 0, 1, 1, 1},
            {1, 2, 4, 0, 2, 1, 1}, {2, 2, 0, 0, 2, 1, 1}, {2, 2, 0, 0, 2, 1, 1}, {2, 2, 0, 0, 2, 1, 1},
            {3, 2, 0, 2, 2, 1, 1}, {4, 2, 0, 2, 2, 1, 1}, {4, 2, 0, 2, 2, 1, 1}, {4, 2, 0, 2, 2, 1, 1},
            {0, 0, 0, 0, 0, 0, 0}};
        for (int i = 0; i < rows.length; i++) {
            for (int what = 0; what < 7; what++) {
                Check.due("behind " + i + " steps: worker(1, " + what + ")", x.worker(1, what), rows[i][what]);
            }
            x.step(1);
        }
        for (int w : new int[] {Integer.MIN_VALUE, -1, 4, Integer.MAX_VALUE}) {
            for (int what = -1; what < 8; what++) {
                Check.due("worker(" + w + ", " + what + ")", x.worker(w, what), EpochLeaves.BAD);
            }
        }
        x.start(2, 0, 0, 0);
        for (int what : new int[] {Integer.MIN_VALUE, -1, 7, Integer.MAX_VALUE}) {
            Check.due("worker(2, " + what + ")", x.worker(2, what), EpochLeaves.BAD);
            Check.due("worker(3, " + what + ")", x.worker(3, what), EpochLeaves.BAD);
        }
        idleBehindAbort();
        nodesOfSeveralLeaves();
        Check.end();
    }

    private static void idleBehindAbort() {
        EpochLeaves x = new EpochLeaves();
        x.code(0, Check.PUT, 0, 1, 0);
        x.code(0, Check.GET, 2, 1, 0);
        x.code(0, Check.FAIL, 0, 0, 0);
        x.start(0, 0, 3, 4);
        Check.due("run", x.run(0, 100), 3);
        for (int what = 0; what < 7; what++) {
            Check.due("aborted: worker(0, " + what + ")", x.worker(0, what), 0);
        }
    }

    private static void nodesOfSeveralLeaves() {
        EpochLeaves x = Check.withProcedures();
        for (int key = 0; key < 32; key += 4) {
            Check.commit(x, 0, 1, key, 1);
        }
        // The leaves are 0 4 8, 12 16 20 and 24 28.
        Check.due("the third leaf", x.leaf(2, 3), 24);
        Check.due("no fourth", x.leaf(3, 3), EpochLeaves.BAD);
        int[][] rows = {{0, 11, 1, 3}, {11, 12, 2, 1}, {0, 31, 3, 8}, {21, 23, 1, 0}, {23, 24, 2, 1}};
        for (int[] row : rows) {
            x.start(1, 2, row[0], row[1]);
            x.step(1);
            Check.due("nodes of " + row[0] + " to " + row[1], x.worker(1, 6), row[2]);
            Check.due("reads of " + row[0] + " to " + row[1], x.worker(1, 5), row[3]);
            x.run(1, 100);
        }
    }
}
