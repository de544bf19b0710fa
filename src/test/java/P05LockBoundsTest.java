/** Promise 5, its edges: locking with no write, with many, in leaves that are among the nodes and in others. */
final class P05LockBoundsTest {
    public static void main(String[] args) {
        withoutWrites();
        theFenceIsAStepOfItsOwn();
        firstAndLastKey();
        anAddedRecord();
        aRecordThatIsThere();
        blockedAtTheSecondKey();
        ownAddingInASeenLeaf();
        ownAddingsWithSplits();
        ownAddingInALeafNotSeen();
        ownAddingInAnotherLeaf();
        ownAddingBehindAnothers();
        anothersBetweenOwnAddings();
        ownSplitBehindAnothersAdding();
        theOwnNewLeafIsSeen();
        anExistingRecordChangesNoVersion();
        Check.end();
    }

    /** Procedure 1: so many PUTs of r1, the first to the key r0, each further one so far apart. */
    private static EpochLeaves withPuts(int many, int apart) {
        EpochLeaves x = Check.withProcedures();
        x.clear(1);
        x.code(1, Check.SET, 2, apart, 0);
        for (int i = 0; i < many; i++) {
            x.code(1, Check.PUT, 0, 1, 0);
            x.code(1, Check.ADD, 0, 0, 2);
        }
        return x;
    }

    private static EpochLeaves withKeys(int... keys) {
        EpochLeaves x = Check.withProcedures();
        for (int key : keys) {
            Check.commit(x, 3, 1, key, key);
        }
        return x;
    }

    /** Procedure 3: the sum of all keys, then PUTs of r1 to r0 and r0 + 1. */
    private static void codeSumAndPuts(EpochLeaves x) {
        x.clear(3);
        x.code(3, Check.SET, 3, 31, 0);
        x.code(3, Check.SUM, 4, 2, 3);
        x.code(3, Check.PUT, 0, 1, 0);
        x.code(3, Check.SET, 5, 1, 0);
        x.code(3, Check.ADD, 0, 0, 5);
        x.code(3, Check.PUT, 0, 1, 0);
        x.code(3, Check.GIVE, 4, 0, 0);
    }

    private static void withoutWrites() {
        EpochLeaves x = Check.withProcedures();
        x.start(0, 2, 0, 31);
        x.run(0, 2);
        Check.due("LOCKING", x.worker(0, 0), 2);
        Check.due("no epoch yet", x.worker(0, 3), 0);
        Check.due("the fence", x.step(0), 1);
        Check.due("FENCED", x.worker(0, 0), 3);
        Check.due("its epoch", x.worker(0, 3), 1);
        Check.due("the look again", x.step(0), 1);
        Check.due("INSTALLING", x.worker(0, 0), 4);
        Check.due("nothing to install", x.step(0), 2);
        Check.due("in the log", x.log(0, 0), 1);
    }

    private static void theFenceIsAStepOfItsOwn() {
        EpochLeaves x = Check.withProcedures();
        Made.atLocking(x, 0, 9);
        Check.due("all is locked, no epoch yet", x.worker(0, 3), 0);
        x.advance();
        Check.due("the fence", x.step(0), 1);
        Check.due("the epoch of that step", x.worker(0, 3), 2);
        Check.due("the lock stays", x.entry(9, 3), 1);
    }

    private static void firstAndLastKey() {
        EpochLeaves x = withPuts(2, -31);
        x.start(0, 1, 31, 7);
        x.run(0, 6);
        Check.due("two writes", x.worker(0, 4), 2);
        Check.due("the lock of 0", x.step(0), 1);
        Check.due("0 is first", x.entry(0, 3), 1);
        Check.due("31 is not", x.entry(31, 0), 0);
        Check.due("the lock of 31", x.step(0), 1);
        Check.due("31 is locked", x.entry(31, 3), 1);
        Check.due("look again and install 0", x.run(0, 3), 1);
        Check.due("0 is free", x.entry(0, 3), 0);
        Check.due("31 is not", x.entry(31, 3), 1);
        Check.due("31 has no value", x.entry(31, 0), 1);
        Check.due("the rest", x.run(0, 2), 2);
        Check.due("31 has its value", x.entry(31, 1), 7);
    }

    private static void anAddedRecord() {
        EpochLeaves x = Check.withProcedures();
        Made.atLocking(x, 3, 0);
        int[] want = {1, 0, 0, 4};
        for (int what = 0; what < 4; what++) {
            Check.due("entry(0, " + what + ")", x.entry(0, what), want[what]);
        }
        Check.due("version", x.leaf(0, 1), 1);
    }

    private static void aRecordThatIsThere() {
        EpochLeaves x = withKeys(9);
        Made.atLocking(x, 1, 9);
        int[] want = {2, 9, 1024, 2};
        for (int what = 0; what < 4; what++) {
            Check.due("entry(9, " + what + ")", x.entry(9, what), want[what]);
        }
        Check.due("version", x.leaf(0, 1), 1);
    }

    private static void blockedAtTheSecondKey() {
        EpochLeaves x = withPuts(3, 1);
        x.start(0, 1, 9, 7);
        x.run(0, 9);
        Check.due("its first lock", x.entry(9, 3), 1);
        x.start(1, 1, 8, 6);
        Check.due("the other gets 8, then waits for 9", x.run(1, 100), 0);
        Check.due("it keeps 8", x.entry(8, 3), 2);
        Check.due("it has not 10", x.entry(10, 0), 0);
        Check.due("the first one ends", x.run(0, 100), 2);
        Check.due("the other, too", x.run(1, 100), 2);
        int[] values = {6, 6, 6, 7};
        for (int i = 0; i < 4; i++) {
            Check.due("entry(" + (8 + i) + ", 1)", x.entry(8 + i, 1), values[i]);
        }
    }

    private static void ownAddingInASeenLeaf() {
        EpochLeaves x = withKeys(1, 2);
        codeSumAndPuts(x);
        x.start(0, 3, 5, 50);
        x.run(0, 7);
        Check.due("one node", x.worker(0, 6), 1);
        x.run(0, 2);
        Check.due("version", x.leaf(0, 1), 4);
        Check.due("one node still", x.worker(0, 6), 1);
        Check.due("committed", x.run(0, 100), 2);
    }

    private static void ownAddingsWithSplits() {
        for (int before = 3; before <= 4; before++) {
            EpochLeaves x = before == 3 ? withKeys(1, 2, 3) : withKeys(1, 2, 3, 4);
            codeSumAndPuts(x);
            x.start(0, 3, 5, 50);
            x.run(0, 9);
            Check.due("both are locked", x.entry(5, 3) + x.entry(6, 3), 2);
            Check.due("two leaves", x.leaf(1, 2), before == 3 ? 2 : 3);
            Check.due("versions", x.leaf(0, 1) + x.leaf(1, 1), before == 3 ? 6 : 7);
            Check.due("both are nodes", x.worker(0, 6), 2);
            Check.due("committed", x.run(0, 100), 2);
        }
    }

    private static void ownAddingInALeafNotSeen() {
        EpochLeaves x = withKeys(1, 2, 3, 4);
        Made.atLocking(x, 0, 5);
        Check.due("it was split", x.leaf(1, 2), 2);
        Check.due("no nodes", x.worker(0, 6), 0);
        Check.commit(x, 1, 1, 6, 1);
        Check.commit(x, 1, 1, 0, 1);
        Check.due("committed", x.run(0, 100), 2);
    }

    // The leaf seen is the first one, the adding comes into the second: that stays no node, split or not.
    private static void ownAddingInAnotherLeaf() {
        for (int more = 0; more < 2; more++) {
            EpochLeaves x = withKeys(1, 2, 3, 10, 11, 12);
            if (more == 1) {
                Check.commit(x, 3, 1, 13, 0);
            }
            x.clear(3);
            x.code(3, Check.GET, 2, 0, 0);
            x.code(3, Check.PUT, 1, 0, 0);
            x.start(0, 3, 0, 20);
            x.run(0, 4);
            Check.due("20 is locked", x.entry(20, 3), 1);
            Check.due("one node", x.worker(0, 6), 1);
            Check.commit(x, 1, 1, 21, 1);
            Check.due("committed", x.run(0, 100), 2);
        }
    }

    private static void ownAddingBehindAnothers() {
        EpochLeaves x = Check.withProcedures();
        x.start(0, 0, 9, 1);
        x.step(0);
        Check.commit(x, 1, 1, 20, 1);
        x.run(0, 4);
        Check.due("9 is locked", x.entry(9, 3), 1);
        Check.due("version", x.leaf(0, 1), 2);
        Check.due("aborted", x.run(0, 100), 3);
    }

    private static void anothersBetweenOwnAddings() {
        EpochLeaves x = Check.withProcedures();
        codeSumAndPuts(x);
        x.start(0, 3, 5, 50);
        x.run(0, 8);
        Check.due("5 is locked", x.entry(5, 3), 1);
        Check.commit(x, 1, 1, 20, 1);
        Check.due("6 is locked, then it is FENCED", x.run(0, 2), 1);
        Check.due("FENCED", x.worker(0, 0), 3);
        Check.due("aborted", x.step(0), 3);
        Check.due("5 and 6 stay absent", x.entry(5, 0) + x.entry(6, 0), 2);
        Check.due("and free", x.entry(5, 3) + x.entry(6, 3), 0);
    }

    private static void ownSplitBehindAnothersAdding() {
        EpochLeaves x = withKeys(1, 2, 3);
        x.start(0, 0, 9, 1);
        x.run(0, 4);
        Check.commit(x, 1, 1, 20, 1);
        Check.due("its adding splits", x.step(0), 1);
        Check.due("two leaves", x.leaf(1, 0), 2);
        Check.due("one node", x.worker(0, 6), 1);
        Check.due("aborted", x.run(0, 100), 3);
    }

    private static void theOwnNewLeafIsSeen() {
        for (int other = 0; other < 3; other++) {
            EpochLeaves x = withKeys(1, 2, 3, 4);
            x.start(0, 0, 9, 1);
            x.run(0, 5);
            Check.due("9 lies in a new leaf", x.leaf(1, 3), 4);
            Check.due("two nodes", x.worker(0, 6), 2);
            if (other > 0) {
                Check.commit(x, 1, 1, other == 1 ? 0 : 31, 1);
            }
            Check.due("it is aborted for either leaf", x.run(0, 100), other == 0 ? 2 : 3);
        }
    }

    private static void anExistingRecordChangesNoVersion() {
        EpochLeaves x = withKeys(1, 2);
        x.start(0, 2, 5, 9);
        x.step(0);
        Check.commit(x, 1, 1, 1, 11);
        Check.commit(x, 1, 3, 2, 0);
        Check.due("version", x.leaf(0, 1), 2);
        Check.due("committed", x.run(0, 100), 2);
    }
}
