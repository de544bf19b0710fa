/** Promise 5, its edges: what makes a FENCED worker abort, what just does not, and what an abort leaves. */
final class P05FenceBoundsTest {
    public static void main(String[] args) {
        nothingRead();
        aReadWithAnotherStamp();
        theSameValueWithAnotherStamp();
        aReadLockedByAnother();
        aReadLockedByItself();
        aLockThatWasTakenBack();
        anAbsentRead();
        aKeyThatWasNotRead();
        aNodeWithAnotherVersion();
        aReadAndLaterWrittenKey();
        firstSightCounts();
        firstSightOfALeafCounts();
        theLastMoment();
        changedBehindTheLook();
        twoWhoReadWhatTheOtherWrites();
        onlyItsOwnLocksGo();
        allThatItKeptIsGone();
        Check.end();
    }

    private static EpochLeaves withKeys(int... keys) {
        EpochLeaves x = Check.withProcedures();
        for (int key : keys) {
            Check.commit(x, 3, 1, key, key);
        }
        return x;
    }

    /** Procedure 3: GET of r0, then PUT of r1 to the key r1. */
    private static void codeGetAndPut(EpochLeaves x) {
        x.clear(3);
        x.code(3, Check.GET, 2, 0, 0);
        x.code(3, Check.PUT, 1, 1, 0);
    }

    private static void nothingRead() {
        EpochLeaves x = withKeys(9);
        Made.atFence(x, 0, 9);
        Check.commit(x, 1, 1, 10, 1);
        Check.due("it reads nothing, so nothing aborts it", x.step(0), 1);
        Check.due("INSTALLING", x.worker(0, 0), 4);
    }

    private static void aReadWithAnotherStamp() {
        for (int key = 0; key < 32; key += 31) {
            EpochLeaves x = withKeys(key);
            x.start(0, 0, key, 1);
            x.step(0);
            Check.commit(x, 1, 1, key, 77);
            Check.due("GIVE, lock and fence", x.run(0, 5), 1);
            Check.due("FENCED", x.worker(0, 0), 3);
            Check.due("aborted", x.step(0), 3);
            Check.due("its transaction", x.transaction(2, 0), 4);
            Check.due("the other's value stays", x.entry(key, 1), 77);
            Check.due("no lock", x.entry(key, 3), 0);
        }
    }

    private static void theSameValueWithAnotherStamp() {
        EpochLeaves x = withKeys(9);
        x.start(0, 2, 9, 9);
        x.step(0);
        Check.commit(x, 1, 1, 9, 9);
        Check.due("the stamp counts, not the value", x.run(0, 100), 3);
    }

    private static void aReadLockedByAnother() {
        for (int w = 1; w < 4; w++) {
            EpochLeaves x = withKeys(9);
            x.start(0, 2, 9, 9);
            x.run(0, 3);
            Made.atLocking(x, w, 9);
            Check.due("its read is locked by worker " + w, x.step(0), 3);
            Check.due("the other's lock stays", x.entry(9, 3), w + 1);
        }
    }

    private static void aReadLockedByItself() {
        EpochLeaves x = withKeys(9);
        x.start(0, 0, 9, 1);
        x.run(0, 6);
        Check.due("its own lock", x.entry(9, 3), 1);
        Check.due("FENCED", x.worker(0, 0), 3);
        Check.due("does no harm", x.step(0), 1);
        Check.due("the end", x.run(0, 100), 2);
    }

    private static void aLockThatWasTakenBack() {
        EpochLeaves x = withKeys(9, 10);
        codeGetAndPut(x);
        x.start(0, 2, 9, 9);
        x.run(0, 3);
        x.start(1, 3, 10, 9);
        x.run(1, 4);
        Check.due("the lock of worker 1", x.entry(9, 3), 2);
        Check.commit(x, 2, 1, 10, 0);
        Check.due("worker 1 is aborted", x.run(1, 100), 3);
        Check.due("the lock is gone", x.entry(9, 3), 0);
        Check.due("the read is as it was", x.run(0, 100), 2);
    }

    private static void anAbsentRead() {
        EpochLeaves x = withKeys(9);
        Check.commit(x, 3, 3, 9, 0);
        x.start(0, 2, 9, 9);
        x.step(0);
        Check.due("an absent record is a read", x.worker(0, 5), 1);
        Check.commit(x, 1, 3, 9, 0);
        Check.due("dropped again: another stamp", x.run(0, 100), 3);
        x.start(0, 2, 9, 9);
        x.step(0);
        Check.due("unchanged", x.run(0, 100), 2);
    }

    private static void aKeyThatWasNotRead() {
        EpochLeaves x = withKeys(8, 9, 10);
        x.start(0, 0, 9, 1);
        x.run(0, 6);
        Check.commit(x, 1, 1, 8, 1);
        Made.atLocking(x, 2, 10);
        Check.due("others' stamps and locks do not count", x.step(0), 1);
        Check.due("the end", x.run(0, 100), 2);
    }

    private static void aNodeWithAnotherVersion() {
        EpochLeaves x = withKeys(1, 2, 3, 10, 11);
        x.start(0, 2, 12, 12);
        x.run(0, 3);
        Check.commit(x, 1, 1, 4, 1);
        Check.due("the leaf before", x.leaf(0, 1), 7);
        x.start(2, 2, 13, 13);
        x.run(2, 3);
        Made.atLocking(x, 1, 20);
        Check.due("a record was added to its leaf, not yet with a value", x.step(0), 3);
        Check.due("to this one's, too", x.step(2), 3);
        EpochLeaves y = withKeys(1, 2, 3, 10, 11);
        y.start(0, 2, 12, 12);
        y.run(0, 3);
        Check.commit(y, 1, 1, 4, 1);
        Check.due("another leaf's version does not count", y.step(0), 1);
    }

    private static void aReadAndLaterWrittenKey() {
        EpochLeaves x = withKeys(9);
        x.start(0, 0, 9, 1);
        x.run(0, 3);
        Check.due("written", x.worker(0, 4), 1);
        Check.due("it stays among the reads", x.worker(0, 5), 1);
        Check.commit(x, 1, 1, 9, 5);
        Check.due("aborted", x.run(0, 100), 3);
        Check.due("the other's value", x.entry(9, 1), 5);
    }

    private static void firstSightCounts() {
        EpochLeaves x = withKeys(9);
        x.clear(2);
        for (int i = 0; i < 2; i++) {
            x.code(2, Check.GET, 2 + i, 0, 0);
            x.code(2, Check.GET, 4 + i, 1, 0);
        }
        x.start(0, 2, 9, 20);
        x.run(0, 2);
        Check.due("one read, one node", x.worker(0, 5) * 10 + x.worker(0, 6), 11);
        Check.commit(x, 1, 1, 9, 99);
        x.run(0, 2);
        Check.due("the second sight has the new value", x.register(0, 3), 99);
        Check.due("one read, one node still", x.worker(0, 5) * 10 + x.worker(0, 6), 11);
        Check.due("the first sight counts", x.run(0, 100), 3);
        x.start(0, 2, 9, 20);
        x.run(0, 2);
        Check.commit(x, 1, 1, 20, 2);
        x.run(0, 2);
        Check.due("it sees the new record", x.register(0, 5), 2);
        Check.due("two reads, one node", x.worker(0, 5) * 10 + x.worker(0, 6), 21);
        Check.due("the version first seen counts", x.run(0, 100), 3);
    }

    private static void firstSightOfALeafCounts() {
        EpochLeaves x = Check.withProcedures();
        x.clear(2);
        x.code(2, Check.GET, 2, 0, 0);
        x.code(2, Check.GET, 3, 0, 0);
        x.start(0, 2, 9, 0);
        x.step(0);
        Check.commit(x, 1, 1, 10, 1);
        x.step(0);
        Check.due("one node", x.worker(0, 6), 1);
        Check.due("the version of the first GET counts", x.run(0, 100), 3);
        x.clear(3);
        x.code(3, Check.SUM, 2, 0, 1);
        x.code(3, Check.SUM, 3, 0, 1);
        x.start(0, 3, 20, 31);
        x.step(0);
        Check.commit(x, 1, 1, 11, 1);
        x.step(0);
        Check.due("one node", x.worker(0, 6), 1);
        Check.due("the version of the first SUM counts", x.run(0, 100), 3);
    }

    private static void theLastMoment() {
        EpochLeaves x = withKeys(9);
        x.start(0, 2, 9, 9);
        x.run(0, 3);
        Check.due("FENCED", x.worker(0, 0), 3);
        Check.commit(x, 1, 1, 9, 1);
        Check.due("changed just before the look", x.step(0), 3);
    }

    private static void changedBehindTheLook() {
        EpochLeaves x = withKeys(9);
        x.start(0, 2, 9, 20);
        x.run(0, 4);
        Check.due("INSTALLING", x.worker(0, 0), 4);
        Check.commit(x, 1, 1, 9, 1);
        Check.commit(x, 1, 1, 10, 1);
        Check.due("changed just behind it", x.step(0), 2);
    }

    private static void twoWhoReadWhatTheOtherWrites() {
        EpochLeaves x = withKeys(9, 10);
        codeGetAndPut(x);
        x.start(0, 3, 9, 10);
        x.start(1, 3, 10, 9);
        Check.due("both read", x.step(0) + x.step(1), 2);
        Check.due("both are FENCED", x.run(0, 4) + x.run(1, 4), 2);
        Check.due("worker 0", x.step(0), 3);
        Check.due("worker 1 then finds its read free", x.step(1), 1);
        Check.due("its end", x.run(1, 100), 2);
    }

    private static void onlyItsOwnLocksGo() {
        EpochLeaves x = withKeys(9);
        Made.atLocking(x, 1, 20);
        x.start(0, 0, 9, 1);
        x.run(0, 5);
        Made.atLocking(x, 2, 21);
        x.clear(3);
        x.code(3, Check.FAIL, 0, 0, 0);
        x.start(3, 3, 0, 0);
        Check.due("worker 3 has no locks", x.step(3), 3);
        Check.due("the others' stay", x.entry(9, 3) * 100 + x.entry(20, 3) * 10 + x.entry(21, 3), 123);
    }

    private static void allThatItKeptIsGone() {
        EpochLeaves x = Check.withProcedures();
        x.start(0, 0, 9, 1);
        x.run(0, 6);
        Check.commit(x, 1, 1, 10, 1);
        Check.due("aborted", x.step(0), 3);
        for (int what = 0; what < 7; what++) {
            Check.due("worker(0, " + what + ")", x.worker(0, what), 0);
        }
        int[] want = {1, 0, 0, 0};
        for (int what = 0; what < 4; what++) {
            Check.due("the record that it added stays: entry(9, " + what + ")", x.entry(9, what), want[what]);
        }
        Check.due("records", x.leaf(0, 2), 2);
        Check.due("its log", x.log(0, 0), 0);
        int t = Check.commit(x, 0, 1, 11, 1);
        Check.due("an aborted one takes no stamp", x.transaction(t, 1), 1024);
    }
}
