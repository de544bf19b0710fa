/** Promise 8, its edges: marks at and beside an epoch, in each state of the worker; what just is released. */
final class P08FlushBoundsTest {
    public static void main(String[] args) {
        noSuchWorker();
        ofAnEmptyLog();
        theMarkIsBelowTheEpoch();
        theMarkInEachState();
        neverLessThanItWas();
        nothingBeforeTheLastMark();
        theEpochOfTheMarkIsReleased();
        theEpochBehindItIsNot();
        severalEpochsAtOnce();
        releasedOnce();
        durableInOneLogAlone();
        onlyCommittedOnesAreReleased();
        Check.end();
    }

    private static void noSuchWorker() {
        for (int w : new int[] {Integer.MIN_VALUE, -1, 4, Integer.MAX_VALUE}) {
            Twin.refusedAnywhere("flush(" + w + ")", x -> x.flush(w), EpochLeaves.BAD);
        }
    }

    private static void ofAnEmptyLog() {
        EpochLeaves x = new EpochLeaves();
        x.advance();
        for (int w = 0; w < 4; w++) {
            Check.due("flush(" + w + ")", x.flush(w), 0);
            Check.due("durable", x.log(w, 1), 0);
            Check.due("its mark", x.log(w, 2), 1);
        }
        Check.due("the durable epoch", x.epoch(1), 1);
    }

    private static void theMarkIsBelowTheEpoch() {
        EpochLeaves x = new EpochLeaves();
        for (int epoch = 1; epoch <= 5; epoch++) {
            Check.due("the store's epoch", x.epoch(0), epoch);
            x.flush(0);
            Check.due("its mark", x.log(0, 2), epoch - 1);
            Check.due("the others' mark", x.log(3, 2), 0);
            x.advance();
        }
    }

    private static void theMarkInEachState() {
        // Behind so many steps of a put in epoch 3 comes an advance, then a flush in epoch 4.
        int[] marks = {3, 3, 3, 3, 2, 2, 2, 3};
        for (int steps = 0; steps <= 7; steps++) {
            EpochLeaves x = Check.withProcedures();
            x.advance();
            x.advance();
            x.start(0, 1, 9, 1);
            if (steps > 0) {
                x.run(0, steps);
            }
            x.advance();
            x.flush(0);
            x.flush(1);
            Check.due("its mark behind " + steps + " steps", x.log(0, 2), marks[steps]);
            Check.due("another's mark", x.log(1, 2), 3);
        }
    }

    private static void neverLessThanItWas() {
        EpochLeaves x = Check.withProcedures();
        x.advance();
        x.advance();
        x.flush(0);
        Made.atFence(x, 0, 9);
        Check.due("FENCED in the epoch behind its mark", x.worker(0, 3) - x.log(0, 2), 1);
        x.flush(0);
        Check.due("the mark stays", x.log(0, 2), 2);
        x.advance();
        x.flush(0);
        Check.due("it stays still", x.log(0, 2), 2);
        x.run(0, 100);
        x.flush(0);
        Check.due("behind the commit it grows", x.log(0, 2), 3);
        x.flush(0);
        Check.due("a second flush", x.log(0, 2), 3);
    }

    private static void nothingBeforeTheLastMark() {
        for (int last = 0; last < 4; last++) {
            EpochLeaves x = Check.withProcedures();
            Check.commit(x, 0, 1, 9, 90);
            x.advance();
            for (int w = 0; w < 4; w++) {
                if (w != last) {
                    Check.due("flush(" + w + ")", x.flush(w), 0);
                }
            }
            Check.due("not released", x.transaction(1, 0) * 100 + x.result(1), 200);
            Check.due("the last flush", x.flush(last), 1);
            Check.due("released", x.transaction(1, 0) * 100 + x.result(1), 390);
        }
    }

    private static EpochLeaves withOneInEachEpoch() {
        EpochLeaves x = Check.withProcedures();
        for (int epoch = 1; epoch <= 4; epoch++) {
            Check.commit(x, epoch % 4, 1, 9, epoch * 10);
            if (epoch < 4) {
                x.advance();
            }
        }
        return x;
    }

    private static void theEpochOfTheMarkIsReleased() {
        EpochLeaves x = withOneInEachEpoch();
        Check.due("all flushes", Check.flushAll(x), 3);
        Check.due("the durable epoch", x.epoch(1), 3);
        Check.due("of epoch 3", x.transaction(3, 0), 3);
        Check.due("its result", x.result(3), 30);
    }

    private static void theEpochBehindItIsNot() {
        EpochLeaves x = withOneInEachEpoch();
        Check.flushAll(x);
        Check.due("durable in its log", x.log(0, 1), 1);
        Check.due("of epoch 4", x.transaction(4, 0), 2);
        Check.due("no result", x.result(4), 0);
        x.advance();
        Check.due("all flushes then", Check.flushAll(x), 1);
        Check.due("of epoch 4 then", x.transaction(4, 0), 3);
    }

    private static void severalEpochsAtOnce() {
        EpochLeaves x = withOneInEachEpoch();
        x.advance();
        Check.due("three flushes", x.flush(0) + x.flush(1) + x.flush(3), 0);
        Check.due("the fourth", x.flush(2), 4);
    }

    private static void releasedOnce() {
        EpochLeaves x = withOneInEachEpoch();
        Check.flushAll(x);
        Check.due("flushed again", Check.flushAll(x), 0);
        Check.due("still released", x.transaction(1, 0), 3);
    }

    private static void durableInOneLogAlone() {
        EpochLeaves x = Check.withProcedures();
        Check.commit(x, 0, 1, 9, 1);
        Check.commit(x, 1, 1, 10, 1);
        x.flush(0);
        Check.due("log(0, 1)", x.log(0, 1), 1);
        Check.due("log(1, 1)", x.log(1, 1), 0);
        Check.commit(x, 0, 1, 9, 1);
        Check.due("what came later is not durable", x.log(0, 1), 1);
        x.flush(0);
        Check.due("then it is", x.log(0, 1), 2);
    }

    private static void onlyCommittedOnesAreReleased() {
        EpochLeaves x = Check.withProcedures();
        Check.commit(x, 0, 1, 9, 1);
        x.start(1, 1, 32, 1);
        x.run(1, 1);
        Check.commit(x, 2, 1, 10, 1);
        x.crash();
        Check.commit(x, 0, 1, 9, 1);
        x.start(3, 1, 11, 1);
        x.advance();
        Check.due("all flushes", Check.flushAll(x), 1);
        int[] want = {5, 4, 5, 3, 1};
        for (int t = 1; t <= 5; t++) {
            Check.due("transaction(" + t + ", 0)", x.transaction(t, 0), want[t - 1]);
        }
    }
}
