/** Promise 5, its edges: when a GET, a SUM or a lock waits for another worker, and what waiting leaves as it is. */
final class P05BlockedBoundsTest {
    public static void main(String[] args) {
        aBlockedGetChangesNothing();
        aBlockedSumChangesNothing();
        aBlockedLockChangesNothing();
        sumJustBesideALock();
        sumBlockedByItsLastKey();
        emptySumIsNotBlocked();
        everyOtherWorkerBlocks();
        ownWriteIsSeenThroughALock();
        putAndDropAreNotBlocked();
        freedByInstalling();
        freedByAnAbort();
        fencedAndInstallingBlockToo();
        Check.end();
    }

    private static EpochLeaves with9Locked() {
        EpochLeaves x = Check.withProcedures();
        Check.commit(x, 0, 1, 8, 80);
        Check.commit(x, 0, 1, 9, 90);
        Made.atLocking(x, 0, 9);
        return x;
    }

    private static EpochLeaves aGetWaits() {
        EpochLeaves x = with9Locked();
        x.start(1, 0, 9, 1);
        return x;
    }

    private static EpochLeaves aSumWaits() {
        EpochLeaves x = with9Locked();
        x.start(1, 2, 0, 31);
        return x;
    }

    private static EpochLeaves aLockWaits() {
        EpochLeaves x = with9Locked();
        x.start(1, 1, 9, 91);
        x.run(1, 2);
        return x;
    }

    private static void aBlockedGetChangesNothing() {
        Twin.refused("a blocked GET", P05BlockedBoundsTest::aGetWaits, x -> x.step(1), 0);
    }

    private static void aBlockedSumChangesNothing() {
        Twin.refused("a blocked SUM", P05BlockedBoundsTest::aSumWaits, x -> x.step(1), 0);
    }

    private static void aBlockedLockChangesNothing() {
        Twin.refused("a blocked lock", P05BlockedBoundsTest::aLockWaits, x -> x.step(1), 0);
    }

    private static void sumIsAnswered(int least, int greatest, int answer) {
        EpochLeaves x = with9Locked();
        x.start(1, 2, least, greatest);
        Check.due("SUM of " + least + " to " + greatest, x.step(1), answer);
    }

    private static void sumJustBesideALock() {
        sumIsAnswered(0, 8, 1);
        sumIsAnswered(0, 9, 0);
        sumIsAnswered(9, 9, 0);
        sumIsAnswered(9, 31, 0);
        sumIsAnswered(10, 31, 1);
    }

    private static void sumBlockedByItsLastKey() {
        EpochLeaves x = Check.withProcedures();
        Check.commit(x, 0, 1, 0, 1);
        Made.atLocking(x, 0, 31);
        x.start(1, 2, 0, 31);
        Check.due("SUM with the last key locked", x.step(1), 0);
        Check.due("no reads", x.worker(1, 5), 0);
        Check.due("no nodes", x.worker(1, 6), 0);
        Check.due("no sum", x.register(1, 2) + x.register(1, 7), 0);
        EpochLeaves y = Check.withProcedures();
        Made.atLocking(y, 0, 0);
        y.start(1, 2, 0, 31);
        Check.due("SUM with the first key locked", y.step(1), 0);
    }

    private static void emptySumIsNotBlocked() {
        sumIsAnswered(10, 9, 1);
        sumIsAnswered(9, 8, 1);
    }

    private static void everyOtherWorkerBlocks() {
        for (int w = 0; w < 4; w++) {
            EpochLeaves x = Check.withProcedures();
            Made.atLocking(x, w, 9);
            Check.due("who has the lock", x.entry(9, 3), w + 1);
            for (int other = 0; other < 4; other++) {
                if (other != w) {
                    x.start(other, other == 3 ? 2 : 0, 9, 9);
                    Check.due("worker " + other + " behind worker " + w, x.step(other), 0);
                }
            }
        }
    }

    private static void ownWriteIsSeenThroughALock() {
        EpochLeaves x = with9Locked();
        x.clear(3);
        x.code(3, Check.PUT, 0, 1, 0);
        x.code(3, Check.GET, 2, 0, 0);
        x.code(3, Check.SUM, 3, 0, 0);
        x.code(3, Check.SUM, 4, 5, 0);
        x.start(1, 3, 9, 99);
        Check.due("PUT, GET, SUM and SUM", x.run(1, 4), 1);
        Check.due("GET", x.register(1, 2), 99);
        Check.due("SUM of 9", x.register(1, 3), 99);
        Check.due("SUM of 0 to 9", x.register(1, 4), 179);
        Check.due("its lock waits", x.run(1, 100), 0);
        Check.due("LOCKING", x.worker(1, 0), 2);
    }

    private static void putAndDropAreNotBlocked() {
        EpochLeaves x = with9Locked();
        x.start(1, 1, 9, 1);
        x.start(2, 3, 9, 0);
        Check.due("PUT", x.step(1), 1);
        Check.due("DROP", x.step(2), 1);
    }

    private static void freedByInstalling() {
        EpochLeaves x = aGetWaits();
        Check.due("locked", x.step(1), 0);
        Check.due("fence, look again", x.run(0, 2), 1);
        Check.due("still locked", x.step(1), 0);
        Check.due("installing", x.step(0), 1);
        Check.due("not committed yet", x.worker(0, 0), 4);
        Check.due("free", x.step(1), 1);
        Check.due("the new value", x.register(1, 2), 9);
    }

    private static void freedByAnAbort() {
        EpochLeaves x = Check.withProcedures();
        x.start(0, 0, 9, 1);
        x.run(0, 5);
        Check.due("locked", x.entry(9, 3), 1);
        x.start(1, 2, 9, 9);
        Check.due("a SUM waits", x.step(1), 0);
        Check.commit(x, 2, 1, 20, 2);
        Check.due("aborted", x.run(0, 100), 3);
        Check.due("free", x.step(1), 1);
        Check.due("an absent record", x.register(1, 7), 0);
        Check.due("was read", x.worker(1, 5), 1);
    }

    private static void fencedAndInstallingBlockToo() {
        EpochLeaves x = Check.withProcedures();
        Made.atFence(x, 0, 9);
        Made.atInstalling(x, 1, 10);
        x.start(2, 0, 9, 1);
        x.start(3, 1, 10, 1);
        Check.due("GET of what a FENCED one has", x.step(2), 0);
        Check.due("lock of what an INSTALLING one has", x.run(3, 100), 0);
        Check.due("LOCKING", x.worker(3, 0), 2);
    }
}
