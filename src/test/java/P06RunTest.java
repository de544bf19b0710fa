/** Promise 6: run does steps until one is not answered by 1. */
final class P06RunTest {
    public static void main(String[] args) {
        EpochLeaves x = Check.withProcedures();
        x.start(0, 0, 3, 4);
        for (int n : new int[] {Integer.MIN_VALUE, -1, 0, 101, Integer.MAX_VALUE}) {
            Check.due("run(0, " + n + ")", x.run(0, n), EpochLeaves.BAD);
            Check.due("BAD comes before BUSY", x.run(1, n), EpochLeaves.BAD);
        }
        for (int w : new int[] {Integer.MIN_VALUE, -1, 4, Integer.MAX_VALUE}) {
            Check.due("run(" + w + ", 1)", x.run(w, 1), EpochLeaves.BAD);
        }
        Check.due("run of an idle worker", x.run(1, 1), EpochLeaves.BUSY);
        Check.due("nothing was done", x.worker(0, 2), 0);
        Check.due("one step", x.run(0, 1), 1);
        Check.due("one was done", x.worker(0, 2), 1);
        Check.due("two steps", x.run(0, 2), 1);
        Check.due("three were done", x.worker(0, 2), 3);
        Check.due("just to the commit: give, lock, fence, look, install, commit", x.run(0, 5), 1);
        Check.due("not committed yet", x.transaction(1, 0), 1);
        Check.due("the last step", x.run(0, 1), 2);
        Check.due("idle then", x.run(0, 1), EpochLeaves.BUSY);
        stopsWhenBlocked();
        stopsWhenAborted();
        hundredSteps();
        Check.end();
    }

    private static void stopsWhenBlocked() {
        EpochLeaves x = Check.withProcedures();
        x.start(0, 1, 3, 4);
        x.run(0, 3);
        x.start(1, 1, 3, 5);
        Check.due("blocked behind two steps", x.run(1, 100), 0);
        Check.due("LOCKING", x.worker(1, 0), 2);
        Check.due("blocked at once", x.run(1, 1), 0);
    }

    private static void stopsWhenAborted() {
        EpochLeaves x = new EpochLeaves();
        x.code(0, Check.FAIL, 0, 0, 0);
        x.start(0, 0, 0, 0);
        Check.due("aborted", x.run(0, 100), 3);
        Check.due("idle", x.worker(0, 0), 0);
    }

    private static void hundredSteps() {
        EpochLeaves x = new EpochLeaves();
        // Puts to the keys 13 .. 0, four instructions each.
        x.code(0, Check.SET, 2, 1, 0);
        x.code(0, Check.PUT, 0, 1, 0);
        x.code(0, Check.SUB, 0, 0, 2);
        x.code(0, Check.LESS, 3, 0, 4);
        x.code(0, Check.ZERO, 3, 1, 0);
        x.start(0, 0, 13, 5);
        // 1 + 14 * 4 instructions, the giving, 14 locks, the fence, the look again, 14 installings, the commit.
        Check.due("just not ended", x.run(0, 87), 1);
        Check.due("INSTALLING", x.worker(0, 0), 4);
        Check.due("all but the commit", x.entry(12, 0) + x.entry(13, 0), 3);
        Check.due("the last two", x.run(0, 2), 2);
    }
}
