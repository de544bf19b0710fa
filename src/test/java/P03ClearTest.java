/** Promise 3: clear empties a procedure that no running worker runs. */
final class P03ClearTest {
    public static void main(String[] args) {
        EpochLeaves x = Check.withProcedures();
        for (int p : new int[] {Integer.MIN_VALUE, -1, 4, Integer.MAX_VALUE}) {
            Check.due("clear(" + p + ")", x.clear(p), false);
        }
        x.start(2, 1, 3, 4);
        Check.due("clear of one that runs", x.clear(1), false);
        Check.due("clear of another", x.clear(0), true);
        Check.due("clear of an empty one", x.clear(0), true);
        Check.due("code of a cleared one", x.code(0, Check.FAIL, 0, 0, 0), 0);
        Check.due("code of one not cleared", x.code(2, Check.FAIL, 0, 0, 0), 2);
        Check.due("the refused one is whole", x.run(2, 2), 1);
        Check.due("it is LOCKING", x.worker(2, 0), 2);
        Check.due("clear of one that is LOCKING", x.clear(1), true);
        Check.due("the cleared run goes on", x.run(2, 100), 2);
        Check.due("its write", x.entry(3, 1), 4);
        Check.due("an empty procedure", x.start(2, 1, 5, 6), 2);
        Check.due("gives at once", x.run(2, 4), 2);
        Check.due("and writes nothing", x.entry(5, 0), 0);
        oneOfTwoRuns();
        anyWorkerCounts();
        Check.end();
    }

    private static void anyWorkerCounts() {
        for (int w = 0; w < 4; w++) {
            EpochLeaves x = Check.withProcedures();
            x.start(w, w, 3, 4);
            for (int p = 0; p < 4; p++) {
                Check.due("worker " + w + " runs: clear(" + p + ")", x.clear(p), p != w);
            }
        }
    }

    private static void oneOfTwoRuns() {
        EpochLeaves x = Check.withProcedures();
        x.start(0, 1, 3, 4);
        x.start(3, 1, 5, 6);
        x.run(0, 100);
        Check.due("clear while worker 3 runs it", x.clear(1), false);
        x.crash();
        Check.due("clear behind a crash", x.clear(1), true);
    }
}
