/** Promise 6, its edges: 1 to 100 steps, and the step that ends a run. */
final class P06RunBoundsTest {
    public static void main(String[] args) {
        wrongNumbersOfSteps();
        noSuchWorker();
        idleWorkers();
        badBeforeBusy();
        oneStep();
        a100Steps();
        endsWithTheLastStep();
        endsBeforeTheLastStep();
        blockedAtOnceAndLater();
        abortedAtOnceAndLater();
        Check.end();
    }

    private static void wrongNumbersOfSteps() {
        for (int n : new int[] {Integer.MIN_VALUE, -1, 0, 101, Integer.MAX_VALUE}) {
            for (int w = 0; w < 4; w++) {
                int each = w;
                Twin.refused("run(" + w + ", " + n + ")", Made::busy, x -> x.run(each, n), EpochLeaves.BAD);
            }
        }
    }

    private static void noSuchWorker() {
        for (int w : new int[] {Integer.MIN_VALUE, -1, 4, Integer.MAX_VALUE}) {
            Twin.refusedAnywhere("run(" + w + ", 1)", x -> x.run(w, 1), EpochLeaves.BAD);
            Twin.refusedAnywhere("run(" + w + ", 0)", x -> x.run(w, 0), EpochLeaves.BAD);
        }
    }

    private static void idleWorkers() {
        for (int w = 0; w < 4; w++) {
            int each = w;
            Twin.refused("run(" + w + ", 1) of an idle worker", EpochLeaves::new, x -> x.run(each, 1),
                    EpochLeaves.BUSY);
            Twin.refused("run(" + w + ", 100) of an idle worker", EpochLeaves::new, x -> x.run(each, 100),
                    EpochLeaves.BUSY);
        }
    }

    private static void badBeforeBusy() {
        Twin.refused("run(0, 0) of an idle worker", EpochLeaves::new, x -> x.run(0, 0), EpochLeaves.BAD);
        Twin.refused("run(0, 101) of an idle worker", EpochLeaves::new, x -> x.run(0, 101), EpochLeaves.BAD);
    }

    private static void oneStep() {
        EpochLeaves x = Check.withProcedures();
        x.start(0, 1, 9, 1);
        for (int step = 1; step <= 6; step++) {
            Check.due("run(0, 1), step " + step, x.run(0, 1), 1);
        }
        Check.due("run(0, 1), the commit", x.run(0, 1), 2);
    }

    private static void a100Steps() {
        for (int n = 99; n <= 100; n++) {
            EpochLeaves x = new EpochLeaves();
            // Six puts, downwards by r1, in each round; it ends when r0 is 0.
            for (int i = 0; i < 6; i++) {
                x.code(0, Check.PUT, 0, 1, 0);
                x.code(0, Check.SUB, 0, 0, 1);
            }
            x.code(0, Check.ZERO, 0, 15, 0);
            x.code(0, Check.ZERO, 2, 0, 0);
            x.start(0, 0, 24, 1);
            // 55 instructions, the giving, 24 locks, the fence and the look again are 82 steps.
            Check.due("run(0, " + n + ")", x.run(0, n), 1);
            int installed = n - 82;
            Check.due("the last one installed", x.entry(installed, 0), 2);
            Check.due("the next one is not", x.entry(installed + 1, 0), 1);
            Check.due("all but the commit", x.run(0, 24 - installed), 1);
            Check.due("the commit", x.step(0), 2);
        }
    }

    private static void endsWithTheLastStep() {
        EpochLeaves x = Check.withProcedures();
        x.start(0, 1, 9, 1);
        Check.due("run(0, 6)", x.run(0, 6), 1);
        Check.due("not ended", x.transaction(1, 0), 1);
        x.run(0, 1);
        x.start(0, 1, 9, 2);
        Check.due("run(0, 7)", x.run(0, 7), 2);
        Check.due("ended", x.transaction(2, 0), 2);
    }

    private static void endsBeforeTheLastStep() {
        EpochLeaves x = Check.withProcedures();
        x.start(0, 1, 9, 1);
        Check.due("run(0, 8)", x.run(0, 8), 2);
        x.start(0, 1, 9, 1);
        Check.due("run(0, 100)", x.run(0, 100), 2);
        Check.due("no step of an idle worker was tried", x.worker(0, 0), 0);
        Check.due("two in the log", x.log(0, 0), 2);
    }

    private static EpochLeaves waiting() {
        EpochLeaves x = Check.withProcedures();
        Made.atLocking(x, 0, 9);
        x.start(1, 1, 9, 2);
        Check.due("blocked behind two steps", x.run(1, 100), 0);
        return x;
    }

    private static void blockedAtOnceAndLater() {
        Twin.refused("run(1, 1) that is blocked at once", P06RunBoundsTest::waiting, x -> x.run(1, 1), 0);
        Twin.refused("run(1, 100) that is blocked at once", P06RunBoundsTest::waiting, x -> x.run(1, 100), 0);
        EpochLeaves x = Check.withProcedures();
        Made.atLocking(x, 0, 9);
        x.start(1, 1, 9, 2);
        Check.due("run(1, 2): just not blocked", x.run(1, 2), 1);
        Check.due("run(1, 1): blocked", x.run(1, 1), 0);
        x.start(2, 1, 9, 3);
        Check.due("run(2, 3): blocked by the third", x.run(2, 3), 0);
        Check.due("two were done", x.worker(2, 0), 2);
    }

    private static void abortedAtOnceAndLater() {
        EpochLeaves x = new EpochLeaves();
        x.code(0, Check.SET, 2, 1, 0);
        x.code(0, Check.FAIL, 0, 0, 0);
        x.start(0, 0, 0, 0);
        Check.due("run(0, 1)", x.run(0, 1), 1);
        Check.due("run(0, 1): aborted at once", x.run(0, 1), 3);
        x.start(0, 0, 0, 0);
        Check.due("run(0, 2): aborted by the last", x.run(0, 2), 3);
        x.start(0, 0, 0, 0);
        Check.due("run(0, 100): aborted by the second", x.run(0, 100), 3);
    }
}
