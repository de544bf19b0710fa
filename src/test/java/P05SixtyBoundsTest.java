/** Promise 5, its edges: a run does 60 instructions and no more. */
final class P05SixtyBoundsTest {
    public static void main(String[] args) {
        the61stIsAborted();
        everyInstructionCountsAsThe61st();
        everyInstructionFitsAsThe60th();
        givesBehindItsLastWhen60AreDone();
        abortedRatherThanBlocked();
        blockedStepsAreNotCounted();
        laterStepsAreNotCounted();
        eachRunIsCountedByItself();
        Check.end();
    }

    /** Procedure 0 does so many instructions (56 .. 60) until it is behind its last; it leaves r0 and r1 as they are. */
    private static void codeUpTo(EpochLeaves x, int instructions) {
        x.code(0, Check.SET, 2, 1, 0);
        x.code(0, Check.SET, 3, 14, 0);
        x.code(0, Check.SUB, 3, 3, 2);
        x.code(0, Check.ZERO, 3, 6, 0);
        x.code(0, Check.SET, 5, 0, 0);
        x.code(0, Check.ZERO, 4, 2, 0);
        // 2 instructions, 13 rounds of 4 and a last one of 2 are 56.
        for (int done = 56; done < instructions; done++) {
            x.code(0, Check.SET, 5, done, 0);
        }
    }

    private static EpochLeaves withDone(int instructions) {
        EpochLeaves x = new EpochLeaves();
        codeUpTo(x, instructions);
        Check.codePut(x, 1);
        return x;
    }

    private static void begin(EpochLeaves x, int w, int instructions) {
        x.start(w, 0, 5, 31);
        Check.due(instructions + " instructions", x.run(w, instructions), 1);
        Check.due("it is RUNNING", x.worker(w, 0), 1);
    }

    private static void the61stIsAborted() {
        EpochLeaves x = new EpochLeaves();
        x.code(0, Check.ZERO, 2, 0, 0);
        x.start(0, 0, 0, 0);
        for (int i = 1; i <= 60; i++) {
            Check.due("instruction " + i, x.step(0), 1);
            Check.due("it is RUNNING", x.worker(0, 0), 1);
        }
        Check.due("instruction 61", x.step(0), 3);
        Check.due("its transaction", x.transaction(1, 0), 4);
        Check.due("its worker", x.worker(0, 0), 0);
        x.start(0, 0, 0, 0);
        Check.due("in one go", x.run(0, 100), 3);
    }

    private static void everyInstructionCountsAsThe61st() {
        for (int op = 0; op < 12; op++) {
            EpochLeaves x = withDone(60);
            Check.due("code of op " + op, x.code(0, op, 0, 0, 0), 10);
            begin(x, 0, 60);
            Check.due("it comes next", x.worker(0, 2), 10);
            Check.due("op " + op + " as the 61st", x.step(0), 3);
            Check.due("its transaction", x.transaction(1, 0), 4);
            Check.due("nothing else is done", x.entry(5, 0) + x.leaf(0, 1) + x.log(0, 0), 0);
        }
    }

    private static void everyInstructionFitsAsThe60th() {
        for (int op = 0; op < 12; op++) {
            EpochLeaves x = withDone(59);
            x.code(0, op, 0, 0, 0);
            begin(x, 0, 59);
            Check.due("op " + op + " as the 60th", x.step(0), op == Check.FAIL ? 3 : 1);
            int state = op == Check.FAIL ? 0 : op == Check.GIVE ? 2 : 1;
            Check.due("the state then", x.worker(0, 0), state);
        }
    }

    private static void givesBehindItsLastWhen60AreDone() {
        EpochLeaves x = withDone(60);
        begin(x, 0, 60);
        Check.due("it is behind its last", x.worker(0, 2), 10);
        Check.due("giving is no instruction", x.step(0), 1);
        Check.due("it is LOCKING", x.worker(0, 0), 2);
        Check.due("it is committed", x.run(0, 100), 2);
    }

    private static void abortedRatherThanBlocked() {
        for (int done = 59; done <= 60; done++) {
            EpochLeaves x = withDone(done);
            x.code(0, Check.GET, 0, 0, 0);
            Made.atLocking(x, 1, 5);
            begin(x, 0, done);
            Check.due("a GET of a locked key behind " + done, x.step(0), done == 60 ? 3 : 0);
            EpochLeaves y = withDone(done);
            y.code(0, Check.SUM, 0, 0, 1);
            Made.atLocking(y, 1, 5);
            begin(y, 0, done);
            Check.due("a SUM with a locked key behind " + done, y.step(0), done == 60 ? 3 : 0);
        }
    }

    private static void blockedStepsAreNotCounted() {
        EpochLeaves x = withDone(59);
        x.code(0, Check.GET, 0, 0, 0);
        Made.atLocking(x, 1, 5);
        begin(x, 0, 59);
        for (int i = 0; i < 5; i++) {
            Check.due("blocked", x.step(0), 0);
        }
        x.run(1, 100);
        Check.due("the 60th", x.step(0), 1);
        Check.due("it was done", x.register(0, 0), 9);
    }

    private static void laterStepsAreNotCounted() {
        EpochLeaves x = withDone(58);
        x.code(0, Check.PUT, 0, 1, 0);
        x.code(0, Check.GIVE, 1, 0, 0);
        begin(x, 0, 59);
        Check.due("the 60th gives", x.step(0), 1);
        for (int step = 61; step <= 64; step++) {
            Check.due("step " + step, x.step(0), 1);
        }
        Check.due("the commit", x.step(0), 2);
    }

    private static void eachRunIsCountedByItself() {
        EpochLeaves x = withDone(60);
        begin(x, 0, 60);
        begin(x, 1, 60);
        Check.due("worker 0", x.run(0, 100), 2);
        Check.due("worker 1", x.run(1, 100), 2);
        begin(x, 0, 60);
        Check.due("worker 0 again", x.run(0, 100), 2);
    }
}
