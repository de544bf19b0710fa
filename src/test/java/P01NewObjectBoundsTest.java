/** Promise 1, its edges: what is empty at first behaves so, and the first of each thing is as said. */
final class P01NewObjectBoundsTest {
    public static void main(String[] args) {
        proceduresAreEmpty();
        anEmptyProcedureGivesNothing();
        theOneLeafHasNoRecords();
        workersAreIdle();
        logsAreEmpty();
        theFirstStampIsTheFirstOfEpochOne();
        noTransactionYet();
        the512thCallIsAnswered();
        Check.end();
    }

    private static void proceduresAreEmpty() {
        EpochLeaves x = new EpochLeaves();
        for (int p = 0; p < 4; p++) {
            for (int place = 0; place < 16; place++) {
                Check.due("code of procedure " + p, x.code(p, Check.SET, 0, 0, 0), place);
            }
            Check.due("code of the full procedure " + p, x.code(p, Check.SET, 0, 0, 0), EpochLeaves.BAD);
        }
    }

    private static void anEmptyProcedureGivesNothing() {
        for (int p = 0; p < 4; p++) {
            EpochLeaves x = new EpochLeaves();
            Check.due("start of the empty procedure " + p, x.start(p, p, 8, 9), 1);
            Check.due("it runs", x.worker(p, 0), 1);
            Check.due("its next instruction", x.worker(p, 2), 0);
            for (int state = 2; state <= 4; state++) {
                Check.due("a step", x.step(p), 1);
                Check.due("state", x.worker(p, 0), state);
            }
            Check.due("the commit", x.step(p), 2);
            x.advance();
            Check.due("released", Check.flushAll(x), 1);
            Check.due("its result", x.result(1), 0);
            Check.due("no record", x.leaf(0, 2), 0);
        }
    }

    private static void theOneLeafHasNoRecords() {
        EpochLeaves x = new EpochLeaves();
        int[] want = {1, 0, 0, -1};
        for (int what = 0; what < 4; what++) {
            Check.due("leaf(0, " + what + ")", x.leaf(0, what), want[what]);
            Check.due("leaf(1, " + what + ")", x.leaf(1, what), EpochLeaves.BAD);
        }
    }

    private static void workersAreIdle() {
        EpochLeaves x = new EpochLeaves();
        for (int w = 0; w < 4; w++) {
            Check.due("step(" + w + ")", x.step(w), EpochLeaves.BUSY);
            Check.due("run(" + w + ", 1)", x.run(w, 1), EpochLeaves.BUSY);
            Check.due("run(" + w + ", 100)", x.run(w, 100), EpochLeaves.BUSY);
        }
        for (int p = 0; p < 4; p++) {
            Check.due("clear(" + p + ")", x.clear(p), true);
        }
    }

    private static void logsAreEmpty() {
        EpochLeaves x = new EpochLeaves();
        for (int w = 0; w < 4; w++) {
            Check.due("flush(" + w + ")", x.flush(w), 0);
            Check.due("its mark is the epoch less 1", x.log(w, 2), 0);
            Check.due("how many are durable", x.log(w, 1), 0);
        }
        Check.due("the durable epoch", x.epoch(1), 0);
        Check.due("crash", x.crash(), 0);
    }

    private static void theFirstStampIsTheFirstOfEpochOne() {
        for (int w = 0; w < 4; w++) {
            EpochLeaves x = Check.withProcedures();
            int t = Check.commit(x, w, 1, 9, 1);
            Check.due("the first stamp of worker " + w, x.transaction(t, 1), 1024);
        }
    }

    private static void noTransactionYet() {
        EpochLeaves x = new EpochLeaves();
        for (int t = -1; t < 3; t++) {
            Check.due("transaction(" + t + ", 0)", x.transaction(t, 0), EpochLeaves.BAD);
            Check.due("transaction(" + t + ", 1)", x.transaction(t, 1), EpochLeaves.BAD);
            Check.due("result(" + t + ")", x.result(t), 0);
        }
    }

    private static void the512thCallIsAnswered() {
        EpochLeaves x = new EpochLeaves();
        for (int call = 1; call <= 512; call++) {
            Check.due("advance, call " + call, x.advance(), call + 1);
        }
        theLastCallsAreACommit();
    }

    private static void theLastCallsAreACommit() {
        EpochLeaves x = Check.withProcedures();
        // 10 calls have made the procedures; two are left behind these.
        for (int call = 11; call <= 505; call++) {
            x.advance();
        }
        x.start(0, 1, 31, 9);
        x.run(0, 100);
        x.advance();
        for (int w = 0; w < 3; w++) {
            x.flush(w);
        }
        Check.due("call 512", x.flush(3), 1);
        EpochLeaves y = Check.withProcedures();
        for (int call = 11; call <= 509; call++) {
            y.advance();
        }
        y.start(0, 1, 31, 9);
        y.run(0, 100);
        Check.due("call 512 tells a stamp of epoch 500", y.transaction(1, 1), 500 * 1024);
    }
}
