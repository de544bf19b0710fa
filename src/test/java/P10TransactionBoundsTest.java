/** Promise 10, its edges: the first and the last transaction, those beside them, and what else may be asked. */
final class P10TransactionBoundsTest {
    private static final int[] STRANGE = {Integer.MIN_VALUE, -1, 2, Integer.MAX_VALUE};

    public static void main(String[] args) {
        noneYet();
        firstAndLast();
        the100th();
        otherQuestions();
        everyState();
        aStampOnlyWhenCommitted();
        Check.end();
    }

    private static void noneYet() {
        for (int t : new int[] {Integer.MIN_VALUE, -1, 0, 1, 100, 101, Integer.MAX_VALUE}) {
            for (int what = -1; what <= 2; what++) {
                int each = what;
                Twin.refused("transaction(" + t + ", " + what + ")", EpochLeaves::new, x -> x.transaction(t, each),
                        EpochLeaves.BAD);
            }
        }
    }

    private static void firstAndLast() {
        EpochLeaves x = Made.busy();
        Check.due("the first", x.transaction(1, 0), 3);
        Check.due("the last", x.transaction(13, 0), 1);
        for (int t : new int[] {0, 14}) {
            Twin.refused("transaction(" + t + ", 0)", Made::busy, y -> y.transaction(t, 0), EpochLeaves.BAD);
            Twin.refused("transaction(" + t + ", 1)", Made::busy, y -> y.transaction(t, 1), EpochLeaves.BAD);
        }
    }

    private static void the100th() {
        EpochLeaves x = Made.full();
        Check.due("the 99th", x.transaction(99, 0), 4);
        Check.due("the 100th", x.transaction(100, 0), 1);
        Twin.refused("transaction(101, 0)", Made::full, y -> y.transaction(101, 0), EpochLeaves.BAD);
        x.start(0, 0, 0, 0);
        Check.due("a refused start makes none", x.transaction(101, 0), EpochLeaves.BAD);
    }

    private static void otherQuestions() {
        for (int what : STRANGE) {
            Twin.refused("transaction(1, " + what + ")", Made::busy, x -> x.transaction(1, what), EpochLeaves.BAD);
            Twin.refused("transaction(13, " + what + ")", Made::busy, x -> x.transaction(13, what), EpochLeaves.BAD);
            Twin.refused("transaction(14, " + what + ")", Made::busy, x -> x.transaction(14, what), EpochLeaves.BAD);
        }
    }

    private static void everyState() {
        EpochLeaves x = Check.withProcedures();
        Check.commit(x, 0, 1, 9, 1);
        x.start(1, 1, -1, 1);
        x.step(1);
        x.start(2, 1, 10, 1);
        row(x, 2, 4, 1);
        x.advance();
        Check.flushAll(x);
        row(x, 3, 4, 1);
        x.crash();
        row(x, 3, 4, 5);
    }

    private static void row(EpochLeaves x, int first, int second, int third) {
        int[] want = {first, second, third};
        for (int t = 1; t <= 3; t++) {
            Check.due("transaction(" + t + ", 0)", x.transaction(t, 0), want[t - 1]);
            Check.due("transaction(" + t + ", 1)", x.transaction(t, 1), t == 1 ? 1024 : 0);
        }
    }

    private static void aStampOnlyWhenCommitted() {
        EpochLeaves x = Check.withProcedures();
        Made.atInstalling(x, 0, 9);
        x.step(0);
        Check.due("its record has the stamp", x.entry(9, 2), 1024);
        Check.due("it does not tell it yet", x.transaction(1, 1), 0);
        x.step(0);
        Check.due("COMMITTED", x.transaction(1, 1), 1024);
        x.crash();
        Check.due("LOST", x.transaction(1, 1), 0);
        Made.atInstalling(x, 0, 9);
        x.crash();
        Check.due("LOST while INSTALLING", x.transaction(2, 1), 0);
    }
}
