/** Promise 12, its edges: the keys 0 and 31 and those beside them, and the four questions. */
final class P12EntryBoundsTest {
    public static void main(String[] args) {
        otherKeys();
        otherQuestions();
        noRecord();
        firstAndLastKey();
        everyLock();
        valueOnlyWhenPresent();
        Check.end();
    }

    private static void otherKeys() {
        for (int key : new int[] {Integer.MIN_VALUE, -1, 32, Integer.MAX_VALUE}) {
            for (int what = 0; what < 4; what++) {
                int each = what;
                Twin.refusedAnywhere("entry(" + key + ", " + what + ")", x -> x.entry(key, each), EpochLeaves.BAD);
            }
        }
    }

    private static void otherQuestions() {
        for (int what : new int[] {Integer.MIN_VALUE, -1, 4, Integer.MAX_VALUE}) {
            for (int key : new int[] {-1, 0, 5, 31, 32}) {
                Twin.refusedAnywhere("entry(" + key + ", " + what + ")", x -> x.entry(key, what), EpochLeaves.BAD);
            }
        }
    }

    private static void noRecord() {
        EpochLeaves x = Made.busy();
        for (int what = 0; what < 4; what++) {
            Check.due("entry(31, " + what + ")", x.entry(31, what), 0);
            Check.due("entry(1, " + what + ")", x.entry(1, what), 0);
        }
    }

    private static void firstAndLastKey() {
        for (int key = 0; key < 32; key += 31) {
            EpochLeaves x = Check.withProcedures();
            Check.commit(x, 2, 1, key, -5);
            int[] want = {2, -5, 1024, 0};
            for (int what = 0; what < 4; what++) {
                Check.due("entry(" + key + ", " + what + ")", x.entry(key, what), want[what]);
                Check.due("the other end", x.entry(31 - key, what), 0);
            }
        }
    }

    private static void everyLock() {
        EpochLeaves x = Check.withProcedures();
        for (int w = 0; w < 4; w++) {
            Made.atLocking(x, w, 10 + w);
        }
        for (int w = 0; w < 4; w++) {
            Check.due("entry(" + (10 + w) + ", 3)", x.entry(10 + w, 3), w + 1);
        }
        for (int w = 0; w < 4; w++) {
            Check.due("its end", x.run(w, 100), 2);
            Check.due("free", x.entry(10 + w, 3), 0);
        }
    }

    private static void valueOnlyWhenPresent() {
        EpochLeaves x = Check.withProcedures();
        Check.commit(x, 0, 1, 9, 70);
        x.start(0, 3, 9, 0);
        x.run(0, 5);
        Check.due("INSTALLING", x.worker(0, 0), 4);
        Check.due("still PRESENT", x.entry(9, 0) * 100 + x.entry(9, 1), 270);
        x.step(0);
        Check.due("ABSENT", x.entry(9, 0) * 100 + x.entry(9, 1), 100);
        Check.due("its stamp stays told", x.entry(9, 2), 1025);
    }
}
