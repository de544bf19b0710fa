/** Objects in states that many tests begin with. */
final class Made {
    private Made() {
    }

    /** Worker 0 is RUNNING, 1 LOCKING, 2 FENCED, 3 INSTALLING; the store's epoch is 3, the durable one 1. */
    static EpochLeaves busy() {
        EpochLeaves x = Check.withProcedures();
        for (int key = 0; key < 32; key += 4) {
            Check.commit(x, key / 4 % 4, 1, key, key + 1);
        }
        x.advance();
        Check.flushAll(x);
        Check.commit(x, 2, 3, 8, 0);
        x.advance();
        x.flush(1);
        x.start(0, 0, 4, 9);
        x.step(0);
        atLocking(x, 1, 5);
        atFence(x, 2, 6);
        atInstalling(x, 3, 7);
        return x;
    }

    /** 100 transactions were started: 99 were aborted, worker 1 runs the last one. */
    static EpochLeaves full() {
        EpochLeaves x = new EpochLeaves();
        x.code(0, Check.FAIL, 0, 0, 0);
        for (int t = 1; t <= 99; t++) {
            x.start(0, 0, 0, 0);
            x.step(0);
        }
        x.start(1, 0, 0, 0);
        return x;
    }

    /** Procedure 2 has 16 instructions. */
    static EpochLeaves withSixteen() {
        EpochLeaves x = new EpochLeaves();
        for (int i = 0; i < 16; i++) {
            x.code(2, Check.SET, 2, i, 0);
        }
        return x;
    }

    /** Worker w is LOCKING with a lock on the key, by a put of procedure 1. */
    static void atLocking(EpochLeaves x, int w, int key) {
        x.start(w, 1, key, 9);
        Check.due("worker " + w + " gets the lock of " + key, x.run(w, 3), 1);
        Check.due("worker " + w + " is LOCKING", x.worker(w, 0), 2);
    }

    static void atFence(EpochLeaves x, int w, int key) {
        atLocking(x, w, key);
        Check.due("the fence of worker " + w, x.step(w), 1);
        Check.due("worker " + w + " is FENCED", x.worker(w, 0), 3);
    }

    static void atInstalling(EpochLeaves x, int w, int key) {
        atFence(x, w, key);
        Check.due("the look again of worker " + w, x.step(w), 1);
        Check.due("worker " + w + " is INSTALLING", x.worker(w, 0), 4);
    }
}
