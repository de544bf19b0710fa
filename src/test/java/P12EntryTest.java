/** Promise 12: what is told of a record. */
final class P12EntryTest {
    public static void main(String[] args) {
        EpochLeaves x = Check.withProcedures();
        for (int key = 0; key < 32; key += 31) {
            rows(x, key, 0, 0, 0, 0);
            x.start(2, 1, key, -7);
            x.run(2, 3);
            rows(x, key, 1, 0, 0, 3);
            x.run(2, 100);
            rows(x, key, 2, -7, key == 0 ? 1024 : 1027, 0);
            x.start(3, 3, key, 0);
            x.run(3, 3);
            rows(x, key, 2, -7, key == 0 ? 1024 : 1027, 4);
            x.run(3, 100);
            rows(x, key, 1, 0, key == 0 ? 1025 : 1028, 0);
            // Reading it is told by no row, but takes a stamp of worker 2.
            Check.commit(x, 2, 2, key, key);
        }
        for (int key : new int[] {Integer.MIN_VALUE, -1, 32, Integer.MAX_VALUE}) {
            for (int what = -1; what < 5; what++) {
                Check.due("entry(" + key + ", " + what + ")", x.entry(key, what), EpochLeaves.BAD);
            }
        }
        for (int what : new int[] {Integer.MIN_VALUE, -1, 4, Integer.MAX_VALUE}) {
            Check.due("entry(0, " + what + ")", x.entry(0, what), EpochLeaves.BAD);
            Check.due("entry(9, " + what + ")", x.entry(9, what), EpochLeaves.BAD);
        }
        Check.end();
    }

    private static void rows(EpochLeaves x, int key, int being, int value, int stamp, int lock) {
        int[] want = {being, value, stamp, lock};
        for (int what = 0; what < 4; what++) {
            Check.due("entry(" + key + ", " + what + ")", x.entry(key, what), want[what]);
        }
    }
}
