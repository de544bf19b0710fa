/** Promise 1: in a new object all is as at first. */
final class P01NewObjectTest {
    public static void main(String[] args) {
        EpochLeaves x = new EpochLeaves();
        Check.due("epoch(0)", x.epoch(0), 1);
        Check.due("epoch(1)", x.epoch(1), 0);
        for (int key = 0; key < 32; key++) {
            for (int what = 0; what < 4; what++) {
                Check.due("entry(" + key + ", " + what + ")", x.entry(key, what), 0);
            }
        }
        Check.due("leaf(0, 0)", x.leaf(0, 0), 1);
        Check.due("leaf(0, 1)", x.leaf(0, 1), 0);
        Check.due("leaf(0, 2)", x.leaf(0, 2), 0);
        Check.due("leaf(0, 3)", x.leaf(0, 3), -1);
        Check.due("leaf(1, 0)", x.leaf(1, 0), EpochLeaves.BAD);
        workersAndLogs(x);
        Check.due("transaction(1, 0)", x.transaction(1, 0), EpochLeaves.BAD);
        for (int p = 0; p < 4; p++) {
            Check.due("the first code(" + p + ")", x.code(p, Check.FAIL, 0, 0, 0), 0);
        }
        objectsAreApart();
        Check.end();
    }

    private static void workersAndLogs(EpochLeaves x) {
        for (int w = 0; w < 4; w++) {
            for (int what = 0; what < 7; what++) {
                Check.due("worker(" + w + ", " + what + ")", x.worker(w, what), 0);
            }
            for (int r = 0; r < 8; r++) {
                Check.due("register(" + w + ", " + r + ")", x.register(w, r), 0);
            }
            for (int what = 0; what < 3; what++) {
                Check.due("log(" + w + ", " + what + ")", x.log(w, what), 0);
            }
        }
    }

    private static void objectsAreApart() {
        EpochLeaves used = Check.withProcedures();
        Check.commit(used, 0, 1, 3, 4);
        used.advance();
        EpochLeaves x = new EpochLeaves();
        Check.due("entry(3, 0) beside a used object", x.entry(3, 0), 0);
        Check.due("epoch(0) beside a used object", x.epoch(0), 1);
        Check.due("start beside a used object", x.start(0, 0, 0, 0), 1);
        Check.due("the code beside a used object", x.code(0, Check.FAIL, 0, 0, 0), 0);
    }
}
