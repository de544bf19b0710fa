/** Promise 5, from GIVE on: locking, the look again, installing, and aborts. */
final class P05StepCommitTest {
    public static void main(String[] args) {
        locksAscending();
        waitsForLocks();
        keepsItsOwnAddings();
        newLeafIsKeptOnlyWithTheOld();
        changedLeafStaysChanged();
        abortsForChangedRead();
        abortsForLockedRead();
        abortsForChangedNode();
        firstSightCounts();
        abortFreesLocks();
        firstAndLastKey();
        epochIsTakenAtTheFence();
        stamps();
        installsAscending();
        splitOfALaterLeaf();
        Check.end();
    }

    /** Procedure p: PUT of r1 to the keys r0, r0 - 2 and r0 + 3, in this order. */
    private static void codeThreePuts(EpochLeaves x, int p) {
        x.code(p, Check.PUT, 0, 1, 0);
        x.code(p, Check.SET, 2, 2, 0);
        x.code(p, Check.SUB, 2, 0, 2);
        x.code(p, Check.PUT, 2, 1, 0);
        x.code(p, Check.SET, 3, 3, 0);
        x.code(p, Check.ADD, 3, 0, 3);
        x.code(p, Check.PUT, 3, 1, 0);
        x.code(p, Check.GIVE, 1, 0, 0);
    }

    private static void locksAscending() {
        EpochLeaves x = new EpochLeaves();
        codeThreePuts(x, 0);
        x.start(1, 0, 10, 5);
        x.run(1, 8);
        Check.due("LOCKING", x.worker(1, 0), 2);
        Check.due("writes", x.worker(1, 4), 3);
        int[] keys = {8, 10, 13};
        for (int i = 0; i < 3; i++) {
            Check.due("not there yet: " + keys[i], x.entry(keys[i], 0), 0);
            Check.due("locking step", x.step(1), 1);
            Check.due("added absent: " + keys[i], x.entry(keys[i], 0), 1);
            Check.due("its stamp", x.entry(keys[i], 2), 0);
            Check.due("its lock", x.entry(keys[i], 3), 2);
            Check.due("version", x.leaf(0, 1), i + 1);
        }
        Check.due("still LOCKING", x.worker(1, 0), 2);
        Check.due("fence", x.step(1), 1);
        Check.due("FENCED", x.worker(1, 0), 3);
    }

    private static void waitsForLocks() {
        EpochLeaves x = Check.withProcedures();
        x.start(0, 1, 3, 1);
        x.run(0, 3);
        x.start(1, 1, 3, 2);
        x.run(1, 2);
        Check.due("another has it", x.step(1), 0);
        Check.due("still another has it", x.step(1), 0);
        Check.due("LOCKING", x.worker(1, 0), 2);
        Check.due("the lock", x.entry(3, 3), 1);
        x.run(0, 3);
        Check.due("installed, not yet committed", x.transaction(1, 0), 1);
        Check.due("it is free", x.step(1), 1);
        Check.due("the lock", x.entry(3, 3), 2);
        Check.due("worker 0 ends", x.step(0), 2);
        Check.due("the lock of worker 1 stays", x.entry(3, 3), 2);
        Check.due("worker 1 ends", x.run(1, 100), 2);
        Check.due("the value", x.entry(3, 1), 2);
    }

    private static void keepsItsOwnAddings() {
        EpochLeaves x = Check.withProcedures();
        for (int key = 2; key < 10; key += 2) {
            Check.commit(x, 0, 1, key, key);
        }
        // It sees the leaf and adds to it so that it is split.
        x.start(0, 0, 5, 5);
        x.run(0, 4);
        Check.due("nodes before", x.worker(0, 6), 1);
        Check.due("adding", x.step(0), 1);
        Check.due("leaf 0 records", x.leaf(0, 2), 3);
        Check.due("leaf 0 version", x.leaf(0, 1), 6);
        Check.due("leaf 1 least key", x.leaf(1, 3), 6);
        Check.due("leaf 1 version", x.leaf(1, 1), 0);
        Check.due("the new leaf is a node, too", x.worker(0, 6), 2);
        Check.due("its own adding is no conflict", x.run(0, 100), 2);
        Check.due("the value", x.entry(5, 1), 5);
        theNewLeafIsLookedAtAgain();
    }

    private static void theNewLeafIsLookedAtAgain() {
        EpochLeaves x = Check.withProcedures();
        for (int key = 2; key < 10; key += 2) {
            Check.commit(x, 0, 1, key, key);
        }
        x.start(0, 0, 5, 5);
        x.run(0, 5);
        Check.commit(x, 1, 1, 20, 1);
        Check.due("another added to the new leaf", x.leaf(1, 1), 1);
        Check.due("so it is aborted", x.run(0, 100), 3);
    }

    private static void newLeafIsKeptOnlyWithTheOld() {
        EpochLeaves x = Check.withProcedures();
        for (int key = 2; key < 10; key += 2) {
            Check.commit(x, 0, 1, key, key);
        }
        x.start(0, 1, 5, 5);
        x.run(0, 3);
        Check.due("there are two leaves", x.leaf(1, 2), 2);
        Check.due("it had no node and has none", x.worker(0, 6), 0);
        Check.commit(x, 1, 1, 20, 1);
        Check.due("so it is not aborted", x.run(0, 100), 2);
    }

    private static void changedLeafStaysChanged() {
        EpochLeaves x = Check.withProcedures();
        for (int key = 2; key < 8; key += 2) {
            Check.commit(x, 0, 1, key, key);
        }
        x.start(0, 0, 5, 5);
        x.run(0, 4);
        Check.commit(x, 1, 1, 20, 1);
        Check.due("adding, with a split", x.step(0), 1);
        Check.due("there are two leaves", x.leaf(1, 2), 2);
        Check.due("the version kept was an old one: no new node", x.worker(0, 6), 1);
        Check.due("aborted", x.run(0, 100), 3);
        Check.due("its record stays", x.entry(5, 0), 1);
        Check.due("without a lock", x.entry(5, 3), 0);
    }

    private static void abortsForChangedRead() {
        EpochLeaves x = Check.withProcedures();
        Check.commit(x, 0, 1, 3, 1);
        x.start(0, 2, 3, 3);
        x.run(0, 2);
        Check.commit(x, 1, 1, 3, 1);
        Check.due("fence", x.step(0), 1);
        Check.due("the look again", x.step(0), 3);
        Check.due("aborted", x.transaction(2, 0), 4);
        Check.due("idle", x.worker(0, 0), 0);
    }

    private static void abortsForLockedRead() {
        EpochLeaves x = Check.withProcedures();
        Check.commit(x, 0, 1, 3, 1);
        x.start(0, 2, 3, 3);
        x.run(0, 3);
        x.start(1, 1, 3, 9);
        x.run(1, 3);
        Check.due("a read is locked by another", x.step(0), 3);
        // Its own lock on what it has read does no harm.
        Check.due("worker 1", x.run(1, 100), 2);
        Check.commit(x, 0, 0, 3, 1);
        Check.due("the value", x.entry(3, 1), 10);
    }

    private static void abortsForChangedNode() {
        EpochLeaves x = Check.withProcedures();
        x.start(0, 0, 3, 1);
        x.run(0, 4);
        Check.commit(x, 1, 1, 30, 9);
        Check.due("its leaf has another record", x.run(0, 100), 3);
        // A dropped and put record changes no leaf.
        x.start(0, 2, 8, 9);
        x.step(0);
        Check.commit(x, 1, 3, 30, 0);
        Check.due("no record was added", x.run(0, 100), 2);
        // An aborted adding changes it all the same.
        x.start(0, 2, 8, 9);
        x.step(0);
        x.start(1, 2, 30, 30);
        x.step(1);
        x.run(1, 100);
        x.start(1, 0, 12, 1);
        x.run(1, 5);
        x.start(2, 1, 13, 1);
        x.run(2, 100);
        Check.due("worker 1 aborts", x.run(1, 100), 3);
        Check.due("worker 0 aborts, too", x.run(0, 100), 3);
    }

    private static void firstSightCounts() {
        EpochLeaves x = Check.withProcedures();
        Check.commit(x, 0, 1, 3, 1);
        x.clear(2);
        x.code(2, Check.GET, 2, 0, 0);
        x.code(2, Check.GET, 3, 0, 0);
        x.code(2, Check.GET, 4, 1, 0);
        x.code(2, Check.GET, 5, 1, 0);
        x.start(0, 2, 3, 8);
        x.step(0);
        Check.commit(x, 1, 1, 3, 2);
        x.step(0);
        Check.due("the first GET", x.register(0, 2), 1);
        Check.due("the second GET", x.register(0, 3), 2);
        Check.due("one read", x.worker(0, 5), 1);
        Check.due("the stamp of the first sight counts", x.run(0, 100), 3);
        x.start(0, 2, 3, 8);
        x.run(0, 3);
        Check.commit(x, 1, 1, 9, 2);
        x.step(0);
        Check.due("one node", x.worker(0, 6), 1);
        Check.due("the version of the first sight counts", x.run(0, 100), 3);
    }

    private static void abortFreesLocks() {
        EpochLeaves x = new EpochLeaves();
        codeThreePuts(x, 0);
        Check.codeSum(x, 1);
        Check.codePut(x, 2);
        x.code(3, Check.GET, 4, 1, 0);
        codeThreePuts(x, 3);
        x.start(0, 3, 10, 1);
        x.run(0, 12);
        Check.due("three locks", x.entry(8, 3) + x.entry(10, 3) + x.entry(13, 3), 3);
        Check.commit(x, 1, 2, 20, 1);
        Check.due("aborted", x.run(0, 100), 3);
        for (int key : new int[] {8, 10, 13}) {
            Check.due("absent: " + key, x.entry(key, 0), 1);
            Check.due("free: " + key, x.entry(key, 3), 0);
            Check.due("stamp: " + key, x.entry(key, 2), 0);
        }
        Check.due("nothing in the log", x.log(0, 0), 0);
    }

    private static void firstAndLastKey() {
        for (int key = 0; key < 32; key += 31) {
            EpochLeaves x = Check.withProcedures();
            x.start(0, 0, key, 1);
            x.run(0, 5);
            Check.due("locked", x.entry(key, 3), 1);
            Check.commit(x, 1, 1, 15, 1);
            Check.due("aborted", x.run(0, 100), 3);
            Check.due("free", x.entry(key, 3), 0);
            int put = Check.commit(x, 1, 1, key, 1);
            int over = Check.commit(x, 2, 1, key, 1);
            Check.due("greater than what it writes over", x.transaction(over, 1), x.transaction(put, 1) + 1);
            int sum = Check.commit(x, 3, 2, key, key);
            Check.due("greater than what it read", x.transaction(sum, 1), x.transaction(over, 1) + 1);
            x.start(0, 2, key, key);
            x.step(0);
            Check.commit(x, 1, 1, key, 1);
            Check.due("what it read was changed", x.run(0, 100), 3);
        }
    }

    private static void epochIsTakenAtTheFence() {
        EpochLeaves x = Check.withProcedures();
        x.start(0, 1, 3, 1);
        x.run(0, 3);
        x.advance();
        x.step(0);
        Check.due("its epoch", x.worker(0, 3), 2);
        x.advance();
        Check.due("it stays", x.worker(0, 3), 2);
        x.run(0, 100);
        Check.due("its stamp", x.transaction(1, 1), 2048);
    }

    private static void stamps() {
        EpochLeaves x = Check.withProcedures();
        int first = Check.commit(x, 0, 1, 3, 1);
        Check.due("the first", x.transaction(first, 1), 1024);
        int second = Check.commit(x, 0, 1, 9, 1);
        Check.due("greater than the worker's latest", x.transaction(second, 1), 1025);
        int third = Check.commit(x, 1, 2, 9, 9);
        Check.due("greater than what it read", x.transaction(third, 1), 1026);
        int fourth = Check.commit(x, 2, 1, 9, 5);
        Check.due("greater than what it writes over", x.transaction(fourth, 1), 1026);
        int fifth = Check.commit(x, 3, 1, 15, 5);
        Check.due("none of these", x.transaction(fifth, 1), 1024);
        int sixth = Check.commit(x, 3, 2, 20, 31);
        Check.due("a run without writes or reads", x.transaction(sixth, 1), 1025);
        int seventh = Check.commit(x, 3, 2, 20, 31);
        Check.due("counts as the worker's latest", x.transaction(seventh, 1), 1026);
        x.advance();
        int eighth = Check.commit(x, 2, 0, 9, 5);
        Check.due("a new epoch begins with number 0", x.transaction(eighth, 1), 2048);
        x.start(0, 1, 3, 4);
        x.run(0, 4);
        x.advance();
        int tenth = Check.commit(x, 1, 1, 4, 4);
        x.run(0, 100);
        Check.due("an older epoch", x.transaction(9, 1), 2048);
        Check.due("beside a newer one", x.transaction(tenth, 1), 3072);
    }

    private static void installsAscending() {
        EpochLeaves x = new EpochLeaves();
        codeThreePuts(x, 0);
        Check.codeDrop(x, 1);
        x.start(0, 0, 10, 5);
        x.run(0, 13);
        Check.due("INSTALLING", x.worker(0, 0), 4);
        Check.due("its epoch", x.worker(0, 3), 1);
        for (int key : new int[] {8, 10, 13}) {
            Check.due("absent yet: " + key, x.entry(key, 0), 1);
            Check.due("installing step", x.step(0), 1);
            Check.due("present: " + key, x.entry(key, 0), 2);
            Check.due("value: " + key, x.entry(key, 1), 5);
            Check.due("stamp: " + key, x.entry(key, 2), 1024);
            Check.due("free: " + key, x.entry(key, 3), 0);
            Check.due("it keeps its writes", x.worker(0, 4), 3);
            Check.due("it runs", x.transaction(1, 0), 1);
            Check.due("no stamp is told yet", x.transaction(1, 1), 0);
        }
        Check.due("commit", x.step(0), 2);
        Check.due("idle", x.worker(0, 0), 0);
        Check.due("in the log", x.log(0, 0), 1);
        Check.due("not durable", x.log(0, 1), 0);
        Check.commit(x, 2, 1, 10, 0);
        Check.due("dropped", x.entry(10, 0), 1);
        Check.due("without a value", x.entry(10, 1), 0);
        Check.due("with a stamp", x.entry(10, 2), 1025);
    }

    private static void splitOfALaterLeaf() {
        EpochLeaves x = Check.withProcedures();
        // Ascending keys fill the last leaf; 11 and 7 then go into the one in the middle.
        for (int key = 0; key < 20; key += 2) {
            Check.commit(x, 0, 1, key, key);
        }
        int[][] rows = {{1, 6, 3, 0}, {2, 4, 3, 6}, {3, 2, 4, 12}};
        for (int place = 0; place < 3; place++) {
            for (int what = 0; what < 4; what++) {
                Check.due("leaf(" + place + ", " + what + ")", x.leaf(place, what), rows[place][what]);
            }
        }
        Check.commit(x, 0, 1, 11, 0);
        Check.commit(x, 0, 1, 7, 0);
        Check.due("the leaf behind the split one", x.leaf(2, 0), 4);
        Check.due("its least key", x.leaf(2, 3), 10);
        Check.due("the one behind it", x.leaf(3, 0), 3);
        Check.due("the split one", x.leaf(1, 2), 3);
        Check.due("its version", x.leaf(1, 1), 7);
        Check.due("no more leaves", x.leaf(4, 0), EpochLeaves.BAD);
    }
}
