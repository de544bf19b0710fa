/** Promise 5, its edges: adding a record to an empty leaf, to one with four records, and beside a leaf's first key. */
final class P05LeafBoundsTest {
    public static void main(String[] args) {
        theFirstRecord();
        fourStayTogether();
        theFifthSplits();
        wherever5thComes();
        besideAFirstKey();
        belowAllKeys();
        aLeafInTheMiddleIsSplit();
        aLeafFrom2To5IsSplitAgain();
        betweenTheTwoOfANewLeaf();
        absentRecordsCount();
        aKeyHasOneRecord();
        namesGoOn();
        nodesAreLeavesOfKeys();
        Check.end();
    }

    private static EpochLeaves withKeys(int... keys) {
        EpochLeaves x = Check.withProcedures();
        for (int key : keys) {
            Check.commit(x, 0, 1, key, key);
        }
        return x;
    }

    private static void row(EpochLeaves x, int place, int name, int version, int many, int least) {
        int[] want = {name, version, many, least};
        for (int what = 0; what < 4; what++) {
            Check.due("leaf(" + place + ", " + what + ")", x.leaf(place, what), want[what]);
        }
    }

    private static void noLeafAt(EpochLeaves x, int place) {
        Check.due("no leaf at " + place, x.leaf(place, 0), EpochLeaves.BAD);
    }

    private static void theFirstRecord() {
        for (int key = 0; key < 32; key += 31) {
            EpochLeaves x = withKeys(key);
            row(x, 0, 1, 1, 1, key);
            noLeafAt(x, 1);
        }
    }

    private static void fourStayTogether() {
        EpochLeaves x = withKeys(5, 10, 15, 20);
        row(x, 0, 1, 4, 4, 5);
        noLeafAt(x, 1);
    }

    private static void theFifthSplits() {
        EpochLeaves x = withKeys(5, 10, 15, 20, 25);
        row(x, 0, 1, 6, 3, 5);
        row(x, 1, 2, 0, 2, 20);
        noLeafAt(x, 2);
    }

    private static void wherever5thComes() {
        int[][] rows = {{0, 0, 15}, {7, 5, 15}, {12, 5, 15}, {17, 5, 17}, {31, 5, 20}};
        for (int[] each : rows) {
            EpochLeaves x = withKeys(20, 5, 15, 10, each[0]);
            row(x, 0, 1, 6, 3, each[1]);
            row(x, 1, 2, 0, 2, each[2]);
            noLeafAt(x, 2);
        }
    }

    private static void besideAFirstKey() {
        EpochLeaves x = withKeys(5, 10, 15, 20, 25, 19);
        row(x, 0, 1, 7, 4, 5);
        row(x, 1, 2, 0, 2, 20);
        Check.commit(x, 0, 1, 21, 0);
        row(x, 0, 1, 7, 4, 5);
        row(x, 1, 2, 1, 3, 20);
    }

    private static void belowAllKeys() {
        EpochLeaves x = withKeys(5, 10, 15, 20, 25, 4);
        row(x, 0, 1, 7, 4, 4);
        row(x, 1, 2, 0, 2, 20);
        Check.commit(x, 0, 1, 0, 0);
        row(x, 0, 1, 9, 3, 0);
        row(x, 1, 3, 0, 2, 10);
        row(x, 2, 2, 0, 2, 20);
        noLeafAt(x, 3);
    }

    private static void aLeafInTheMiddleIsSplit() {
        EpochLeaves x = withKeys(2, 4, 6, 8, 10, 12, 14, 16);
        row(x, 0, 1, 6, 3, 2);
        row(x, 1, 2, 4, 3, 8);
        row(x, 2, 3, 0, 2, 14);
        Check.commit(x, 0, 1, 13, 0);
        row(x, 1, 2, 5, 4, 8);
        noLeafAt(x, 3);
        Check.commit(x, 0, 1, 9, 0);
        row(x, 0, 1, 6, 3, 2);
        row(x, 1, 2, 7, 3, 8);
        row(x, 2, 4, 0, 2, 12);
        row(x, 3, 3, 0, 2, 14);
        noLeafAt(x, 4);
    }

    private static void aLeafFrom2To5IsSplitAgain() {
        EpochLeaves x = withKeys(1, 2, 3, 4, 5, 6, 7);
        row(x, 1, 2, 2, 4, 4);
        noLeafAt(x, 2);
        Check.commit(x, 0, 1, 8, 0);
        row(x, 1, 2, 4, 3, 4);
        row(x, 2, 3, 0, 2, 7);
    }

    private static void betweenTheTwoOfANewLeaf() {
        for (int last = 21; last <= 24; last++) {
            EpochLeaves x = withKeys(5, 10, 15, 20, 25);
            for (int key = 24; key >= 21; key--) {
                if (key != last) {
                    Check.commit(x, 0, 1, key, 0);
                }
            }
            row(x, 1, 2, 4, 3, 20);
            row(x, 2, 3, 0, 2, last == 24 ? 23 : 24);
            Check.commit(x, 0, 1, last, 0);
            row(x, 1, 2, last == 24 ? 4 : 5, last == 24 ? 3 : 4, 20);
            row(x, 2, 3, last == 24 ? 1 : 0, last == 24 ? 3 : 2, last == 24 ? 23 : 24);
        }
    }

    private static void absentRecordsCount() {
        EpochLeaves x = Check.withProcedures();
        for (int key = 1; key <= 4; key++) {
            Check.commit(x, 0, 3, key, 0);
        }
        row(x, 0, 1, 4, 4, 1);
        Check.commit(x, 0, 3, 5, 0);
        row(x, 0, 1, 6, 3, 1);
        row(x, 1, 2, 0, 2, 4);
    }

    private static void aKeyHasOneRecord() {
        EpochLeaves x = withKeys(1, 2, 3, 4);
        Check.commit(x, 1, 1, 4, 44);
        Check.commit(x, 1, 3, 4, 0);
        Check.commit(x, 1, 1, 4, 45);
        row(x, 0, 1, 4, 4, 1);
        noLeafAt(x, 1);
        Check.due("the one value", x.entry(4, 1), 45);
    }

    private static void namesGoOn() {
        EpochLeaves x = Check.withProcedures();
        int splits = 0;
        for (int key = 31; key >= 0; key--) {
            boolean splitsNow = x.leaf(0, 2) == 4;
            Check.commit(x, 0, 1, key, 0);
            if (splitsNow) {
                splits++;
                Check.due("the leaf behind the first", x.leaf(1, 0), splits + 1);
            }
        }
        Check.due("splits", splits, 14);
        Check.due("the first keeps its name", x.leaf(0, 0), 1);
        Check.due("the first one made is the last", x.leaf(14, 0), 2);
        noLeafAt(x, 15);
    }

    // The sum of a key without record keeps its leaf; adding to that leaf makes it abort, to another not.
    private static void nodeIs(int key, int added, boolean same) {
        EpochLeaves x = withKeys(5, 10, 15, 20, 25);
        x.start(1, 0, key, 1);
        x.step(1);
        Check.due("one node", x.worker(1, 6), 1);
        Check.commit(x, 2, 1, added, 0);
        Check.due("GET of " + key + " beside an adding of " + added, x.run(1, 100), same ? 3 : 2);
    }

    private static void nodesAreLeavesOfKeys() {
        nodeIs(0, 1, true);
        nodeIs(0, 21, false);
        nodeIs(4, 16, true);
        nodeIs(19, 0, true);
        nodeIs(19, 21, false);
        nodeIs(21, 31, true);
        nodeIs(21, 19, false);
        nodeIs(31, 22, true);
        nodeIs(31, 18, false);
    }
}
