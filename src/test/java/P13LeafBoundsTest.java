/** Promise 13, its edges: the first and the last place, those beside them, the four questions, a leaf without records. */
final class P13LeafBoundsTest {
    public static void main(String[] args) {
        otherPlaces();
        otherQuestions();
        behindTheLastPlace();
        withoutRecords();
        leastKeys();
        theMostLeaves();
        Check.end();
    }

    private static void otherPlaces() {
        Check.due("the last place of the busy object", Made.busy().leaf(3, 3), 24);
        for (int place : new int[] {Integer.MIN_VALUE, -1, 4, 15, 16, 31, 32, Integer.MAX_VALUE}) {
            for (int what = 0; what < 4; what++) {
                int each = what;
                Twin.refusedAnywhere("leaf(" + place + ", " + what + ")", x -> x.leaf(place, each), EpochLeaves.BAD);
            }
        }
    }

    private static void otherQuestions() {
        for (int what : new int[] {Integer.MIN_VALUE, -1, 4, Integer.MAX_VALUE}) {
            for (int place = -1; place <= 4; place++) {
                int each = place;
                Twin.refusedAnywhere("leaf(" + place + ", " + what + ")", x -> x.leaf(each, what), EpochLeaves.BAD);
            }
        }
    }

    private static void behindTheLastPlace() {
        EpochLeaves x = Check.withProcedures();
        int leaves = 1;
        for (int key = 0; key < 32; key++) {
            Check.commit(x, 0, 1, key, 0);
            // Ascending keys split the last leaf at the 5th record and at every third one behind it.
            leaves += key >= 4 && (key - 4) % 3 == 0 ? 1 : 0;
            Check.due("the last leaf", x.leaf(leaves - 1, 0), leaves);
            Check.due("behind it", x.leaf(leaves, 0), EpochLeaves.BAD);
        }
        Check.due("leaves", leaves, 11);
    }

    private static void withoutRecords() {
        EpochLeaves x = Check.withProcedures();
        Check.due("records", x.leaf(0, 2), 0);
        Check.due("least key", x.leaf(0, 3), -1);
        Made.atLocking(x, 0, 0);
        Check.due("records with an absent one", x.leaf(0, 2), 1);
        Check.due("least key 0", x.leaf(0, 3), 0);
        x.crash();
        Check.due("records behind a crash", x.leaf(0, 2), 0);
        Check.due("least key behind a crash", x.leaf(0, 3), -1);
        Check.due("version behind a crash", x.leaf(0, 1), 0);
    }

    private static void leastKeys() {
        EpochLeaves x = Check.withProcedures();
        for (int key = 31; key >= 28; key--) {
            Check.commit(x, 0, 1, key, 0);
            Check.due("least key", x.leaf(0, 3), key);
            Check.due("records", x.leaf(0, 2), 32 - key);
            Check.due("version", x.leaf(0, 1), 32 - key);
        }
    }

    // Descending keys leave two behind at each split, which makes the most leaves.
    private static void theMostLeaves() {
        EpochLeaves x = Check.withProcedures();
        for (int key = 31; key >= 0; key--) {
            Check.commit(x, 0, 1, key, 0);
        }
        Check.due("the first leaf", x.leaf(0, 2), 4);
        for (int place = 1; place < 15; place++) {
            Check.due("name at " + place, x.leaf(place, 0), 16 - place);
            Check.due("version at " + place, x.leaf(place, 1), 0);
            Check.due("records at " + place, x.leaf(place, 2), 2);
            Check.due("least key at " + place, x.leaf(place, 3), 2 + 2 * place);
        }
        Check.due("behind the last", x.leaf(15, 0), EpochLeaves.BAD);
    }
}
