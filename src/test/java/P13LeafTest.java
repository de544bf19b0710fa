/** Promise 13: what is told of a leaf; and how leaves grow and are split. */
final class P13LeafTest {
    public static void main(String[] args) {
        EpochLeaves x = Check.withProcedures();
        row(x, 0, 1, 0, 0, -1);
        int[] keys = {20, 10, 30, 15};
        int[] least = {20, 10, 10, 10};
        for (int i = 0; i < 4; i++) {
            Check.commit(x, 0, 1, keys[i], 1);
            row(x, 0, 1, i + 1, i + 1, least[i]);
        }
        Check.due("one leaf", x.leaf(1, 0), EpochLeaves.BAD);
        Check.commit(x, 0, 1, 12, 1);
        row(x, 0, 1, 6, 3, 10);
        row(x, 1, 2, 0, 2, 20);
        // 19 has its place in the first leaf, 20 is there already, 0 becomes the least key.
        Check.commit(x, 0, 1, 19, 1);
        row(x, 0, 1, 7, 4, 10);
        Check.commit(x, 0, 1, 20, 2);
        row(x, 1, 2, 0, 2, 20);
        Check.commit(x, 0, 1, 0, 1);
        row(x, 0, 1, 9, 3, 0);
        row(x, 1, 3, 0, 2, 15);
        row(x, 2, 2, 0, 2, 20);
        Check.commit(x, 0, 1, 31, 1);
        row(x, 2, 2, 1, 3, 20);
        Check.commit(x, 0, 3, 31, 0);
        row(x, 2, 2, 1, 3, 20);
        refuses(x);
        manyLeaves(false);
        manyLeaves(true);
        Check.end();
    }

    private static void refuses(EpochLeaves x) {
        for (int place : new int[] {Integer.MIN_VALUE, -1, 3, 4, 15, 16, 32, Integer.MAX_VALUE}) {
            for (int what = 0; what < 4; what++) {
                Check.due("leaf(" + place + ", " + what + ")", x.leaf(place, what), EpochLeaves.BAD);
            }
        }
        for (int what : new int[] {Integer.MIN_VALUE, -1, 4, Integer.MAX_VALUE}) {
            Check.due("leaf(0, " + what + ")", x.leaf(0, what), EpochLeaves.BAD);
        }
    }

    private static void manyLeaves(boolean descending) {
        EpochLeaves x = Check.withProcedures();
        for (int i = 0; i < 32; i++) {
            Check.commit(x, 0, 1, descending ? 31 - i : i, 1);
        }
        // Ascending, each split leaves three in front; descending, it sends two behind.
        int leaves = descending ? 15 : 11;
        int records = 0;
        for (int place = 0; place < leaves; place++) {
            Check.due("least key at " + place, x.leaf(place, 3), records);
            records += x.leaf(place, 2);
        }
        Check.due("records", records, 32);
        Check.due("leaf behind the last", x.leaf(leaves, 0), EpochLeaves.BAD);
        Check.due("name at place 1", x.leaf(1, 0), descending ? leaves : 2);
    }

    private static void row(EpochLeaves x, int place, int name, int version, int count, int least) {
        int[] want = {name, version, count, least};
        for (int what = 0; what < 4; what++) {
            Check.due("leaf(" + place + ", " + what + ")", x.leaf(place, what), want[what]);
        }
    }
}
