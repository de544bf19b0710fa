/** Promise 15, its edges: the registers 0 and 7 and those beside them, and workers without a run. */
final class P15RegisterAnswerBoundsTest {
    public static void main(String[] args) {
        noSuchWorker();
        noSuchRegister();
        firstAndLast();
        idleWorkers();
        inEachState();
        Check.end();
    }

    private static void noSuchWorker() {
        for (int w : new int[] {Integer.MIN_VALUE, -1, 4, Integer.MAX_VALUE}) {
            for (int r = -1; r <= 8; r++) {
                int each = r;
                Twin.refusedAnywhere("register(" + w + ", " + r + ")", x -> x.register(w, each), 0);
            }
        }
    }

    private static void noSuchRegister() {
        for (int r : new int[] {Integer.MIN_VALUE, -1, 8, Integer.MAX_VALUE}) {
            for (int w = 0; w < 4; w++) {
                int each = w;
                Twin.refusedAnywhere("register(" + w + ", " + r + ")", x -> x.register(each, r), 0);
            }
        }
    }

    private static EpochLeaves withAllSet() {
        EpochLeaves x = new EpochLeaves();
        for (int r = 0; r < 8; r++) {
            x.code(0, Check.SET, r, r - 1000, 0);
        }
        return x;
    }

    private static void firstAndLast() {
        for (int w = 0; w < 4; w += 3) {
            EpochLeaves x = withAllSet();
            x.start(w, 0, 1, 2);
            x.run(w, 8);
            for (int r = 0; r < 8; r++) {
                Check.due("register(" + w + ", " + r + ")", x.register(w, r), r - 1000);
                Check.due("of an idle one", x.register(3 - w, r), 0);
            }
        }
    }

    private static void idleWorkers() {
        EpochLeaves x = withAllSet();
        x.start(0, 0, 1, 2);
        Check.due("committed", x.run(0, 100), 2);
        x.start(1, 0, 1, 2);
        x.crash();
        for (int r = 0; r < 8; r++) {
            Check.due("behind a commit: r" + r, x.register(0, r), 0);
            Check.due("behind a crash: r" + r, x.register(1, r), 0);
        }
        x.code(1, Check.FAIL, 0, 0, 0);
        x.start(2, 1, 7, 8);
        Check.due("r0", x.register(2, 0), 7);
        Check.due("aborted", x.step(2), 3);
        Check.due("behind an abort", x.register(2, 0) + x.register(2, 1), 0);
    }

    private static void inEachState() {
        EpochLeaves x = Check.withProcedures();
        x.start(0, 1, 9, 55);
        for (int steps = 0; steps < 7; steps++) {
            Check.due("r0 behind " + steps + " steps", x.register(0, 0), 9);
            Check.due("r1 behind " + steps + " steps", x.register(0, 1), 55);
            x.step(0);
        }
        Check.due("r0 behind its commit", x.register(0, 0), 0);
    }
}
