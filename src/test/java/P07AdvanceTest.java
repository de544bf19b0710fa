/** Promise 7: advance, unless a worker behind its fence has a lower epoch. */
final class P07AdvanceTest {
    public static void main(String[] args) {
        EpochLeaves x = Check.withProcedures();
        Check.due("advance", x.advance(), 2);
        Check.due("advance again", x.advance(), 3);
        Check.due("epoch(0)", x.epoch(0), 3);
        Check.due("epoch(1)", x.epoch(1), 0);
        x.start(3, 1, 3, 4);
        Check.due("beside a RUNNING one", x.advance(), 4);
        x.run(3, 2);
        Check.due("beside a LOCKING one", x.advance(), 5);
        x.run(3, 2);
        Check.due("FENCED", x.worker(3, 0), 3);
        Check.due("beside a FENCED one of this epoch", x.advance(), 6);
        Check.due("beside a FENCED one of a lower epoch", x.advance(), EpochLeaves.BUSY);
        Check.due("it stays", x.epoch(0), 6);
        x.step(3);
        Check.due("INSTALLING", x.worker(3, 0), 4);
        Check.due("beside an INSTALLING one of a lower epoch", x.advance(), EpochLeaves.BUSY);
        x.run(3, 100);
        Check.due("behind its commit", x.advance(), 7);
        besideInstalling();
        behindAbort();
        Check.end();
    }

    private static void besideInstalling() {
        EpochLeaves x = Check.withProcedures();
        x.start(0, 1, 3, 4);
        x.run(0, 5);
        Check.due("INSTALLING", x.worker(0, 0), 4);
        Check.due("of this epoch", x.advance(), 2);
        Check.due("of a lower epoch", x.advance(), EpochLeaves.BUSY);
        x.crash();
        Check.due("behind a crash", x.advance(), 2);
    }

    private static void behindAbort() {
        EpochLeaves x = Check.withProcedures();
        x.start(0, 2, 0, 31);
        x.run(0, 3);
        x.advance();
        Check.commit(x, 1, 1, 3, 4);
        Check.due("FENCED in epoch 1", x.advance(), EpochLeaves.BUSY);
        Check.due("it aborts", x.step(0), 3);
        Check.due("then", x.advance(), 3);
    }
}
