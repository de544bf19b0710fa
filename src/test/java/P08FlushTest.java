/** Promise 8: flush makes a log durable, raises its mark and releases what the durable epoch has reached. */
final class P08FlushTest {
    public static void main(String[] args) {
        EpochLeaves x = Check.withProcedures();
        for (int w : new int[] {Integer.MIN_VALUE, -1, 4, Integer.MAX_VALUE}) {
            Check.due("flush(" + w + ")", x.flush(w), EpochLeaves.BAD);
        }
        Check.commit(x, 0, 1, 3, 30);
        Check.commit(x, 0, 1, 4, 40);
        Check.commit(x, 1, 1, 5, 50);
        x.advance();
        Check.commit(x, 0, 1, 6, 60);
        Check.due("flush(0)", x.flush(0), 0);
        Check.due("log(0, 1)", x.log(0, 1), 3);
        Check.due("log(0, 2)", x.log(0, 2), 1);
        Check.due("log(1, 1)", x.log(1, 1), 0);
        Check.due("flush(2)", x.flush(2), 0);
        Check.due("flush(3)", x.flush(3), 0);
        Check.due("not yet", x.transaction(1, 0), 2);
        Check.due("flush(1)", x.flush(1), 3);
        Check.due("released", x.transaction(1, 0) + x.transaction(2, 0) + x.transaction(3, 0), 9);
        Check.due("of a later epoch", x.transaction(4, 0), 2);
        Check.due("epoch(1)", x.epoch(1), 1);
        Check.due("a second flush(1)", x.flush(1), 0);
        x.advance();
        x.advance();
        Check.due("three of four", x.flush(1) + x.flush(2) + x.flush(3), 0);
        Check.due("the mark of 0 keeps it back", x.epoch(1), 1);
        Check.due("flush(0) again", x.flush(0), 1);
        Check.due("epoch(1) then", x.epoch(1), 3);
        Check.due("result(4)", x.result(4), 60);
        behindTheFence();
        neverLess();
        Check.end();
    }

    private static void behindTheFence() {
        EpochLeaves x = Check.withProcedures();
        x.advance();
        x.start(0, 1, 3, 30);
        x.run(0, 4);
        x.advance();
        Check.due("FENCED in epoch 2, the store's is 3", x.worker(0, 3), 2);
        Check.due("all flushes", Check.flushAll(x), 0);
        Check.due("its mark", x.log(0, 2), 1);
        Check.due("the others' mark", x.log(1, 2), 2);
        x.step(0);
        x.flush(0);
        Check.due("its mark when INSTALLING", x.log(0, 2), 1);
        x.run(0, 100);
        Check.due("flush behind its commit", x.flush(0), 1);
        Check.due("its mark then", x.log(0, 2), 2);
        x.start(0, 1, 4, 40);
        x.run(0, 3);
        x.advance();
        x.flush(0);
        Check.due("its mark when LOCKING", x.log(0, 2), 3);
    }

    private static void neverLess() {
        EpochLeaves x = Check.withProcedures();
        x.advance();
        x.advance();
        x.flush(0);
        Check.due("the mark", x.log(0, 2), 2);
        x.start(0, 1, 3, 30);
        x.run(0, 4);
        x.flush(0);
        Check.due("it is not less", x.log(0, 2), 2);
        Check.flushAll(x);
        Check.due("the durable epoch", x.epoch(1), 2);
        x.run(0, 100);
        Check.due("committed, not released", x.transaction(1, 0), 2);
    }
}
