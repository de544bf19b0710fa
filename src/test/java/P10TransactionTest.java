/** Promise 10: how it stands with a transaction, and its stamp. */
final class P10TransactionTest {
    public static void main(String[] args) {
        EpochLeaves x = Check.withProcedures();
        int t = x.start(0, 1, 3, 4);
        for (int step = 0; step < 7; step++) {
            Check.due("it runs", x.transaction(t, 0), 1);
            Check.due("no stamp yet", x.transaction(t, 1), 0);
            x.step(0);
        }
        Check.due("committed", x.transaction(t, 0), 2);
        Check.due("its stamp", x.transaction(t, 1), 1024);
        x.advance();
        Check.flushAll(x);
        Check.due("released", x.transaction(t, 0), 3);
        Check.due("its stamp still", x.transaction(t, 1), 1024);
        int wrongKey = x.start(1, 1, 32, 0);
        x.run(1, 100);
        Check.due("aborted", x.transaction(wrongKey, 0), 4);
        Check.due("an aborted one has no stamp", x.transaction(wrongKey, 1), 0);
        int begun = x.start(2, 1, 5, 5);
        int logged = Check.commit(x, 3, 1, 6, 6);
        x.crash();
        Check.due("lost while it ran", x.transaction(begun, 0), 5);
        Check.due("lost from the log", x.transaction(logged, 0), 5);
        Check.due("the stamp of a lost one", x.transaction(logged, 1), 0);
        Check.due("still released", x.transaction(t, 0), 3);
        Check.due("still aborted", x.transaction(wrongKey, 0), 4);
        for (int none : new int[] {Integer.MIN_VALUE, -1, 0, 5, 101, Integer.MAX_VALUE}) {
            Check.due("transaction(" + none + ", 0)", x.transaction(none, 0), EpochLeaves.BAD);
            Check.due("transaction(" + none + ", 1)", x.transaction(none, 1), EpochLeaves.BAD);
        }
        for (int what : new int[] {Integer.MIN_VALUE, -1, 2, Integer.MAX_VALUE}) {
            Check.due("transaction(1, " + what + ")", x.transaction(1, what), EpochLeaves.BAD);
        }
        Check.end();
    }
}
