/** Promise 5, its edges: which workers have a step, and when. */
final class P05RefusedBoundsTest {
    public static void main(String[] args) {
        noSuchWorker();
        idleWorkers();
        idleBehindItsEnd();
        firstAndLastWorker();
        Check.end();
    }

    private static void noSuchWorker() {
        for (int w : new int[] {Integer.MIN_VALUE, -1, 4, Integer.MAX_VALUE}) {
            Twin.refusedAnywhere("step(" + w + ")", x -> x.step(w), EpochLeaves.BAD);
        }
    }

    private static void idleWorkers() {
        for (int w = 0; w < 4; w++) {
            int each = w;
            Twin.refused("step(" + w + ") of an idle worker", EpochLeaves::new, x -> x.step(each), EpochLeaves.BUSY);
        }
    }

    private static EpochLeaves committed() {
        EpochLeaves x = Check.withProcedures();
        Check.commit(x, 0, 1, 5, 6);
        return x;
    }

    private static EpochLeaves aborted() {
        EpochLeaves x = Check.withProcedures();
        x.start(0, 1, 32, 6);
        Check.due("it is aborted", x.step(0), 3);
        return x;
    }

    private static EpochLeaves crashed() {
        EpochLeaves x = Made.busy();
        x.crash();
        return x;
    }

    private static void idleBehindItsEnd() {
        Twin.refused("step behind a commit", P05RefusedBoundsTest::committed, x -> x.step(0), EpochLeaves.BUSY);
        Twin.refused("step behind an abort", P05RefusedBoundsTest::aborted, x -> x.step(0), EpochLeaves.BUSY);
        for (int w = 0; w < 4; w++) {
            int each = w;
            Twin.refused("step(" + w + ") behind a crash", P05RefusedBoundsTest::crashed, x -> x.step(each),
                    EpochLeaves.BUSY);
        }
    }

    private static void firstAndLastWorker() {
        for (int w = 0; w < 4; w += 3) {
            EpochLeaves x = Check.withProcedures();
            x.start(w, 1, 5, 6);
            for (int step = 1; step <= 6; step++) {
                Check.due("step " + step + " of worker " + w, x.step(w), 1);
            }
            Check.due("the last step of worker " + w, x.step(w), 2);
        }
    }
}
