/** Promise 11: a result is told when its transaction is released. */
final class P11ResultTest {
    public static void main(String[] args) {
        EpochLeaves x = Check.withProcedures();
        Check.commit(x, 0, 1, 3, -44);
        Check.commit(x, 0, 0, 3, 4);
        int aborted = x.start(1, 1, 99, 7);
        x.run(1, 100);
        x.advance();
        Check.commit(x, 0, 1, 5, 55);
        int begun = x.start(2, 1, 6, 66);
        x.run(2, 2);
        Check.due("committed", x.result(1), 0);
        Check.flushAll(x);
        Check.due("released", x.result(1), -44);
        Check.due("released, too", x.result(2), -40);
        Check.due("aborted", x.result(aborted), 0);
        Check.due("of a later epoch", x.result(4), 0);
        Check.due("it runs", x.result(begun), 0);
        x.crash();
        Check.due("lost", x.result(4), 0);
        Check.due("lost while it ran", x.result(begun), 0);
        Check.due("still released", x.result(1), -44);
        for (int none : new int[] {Integer.MIN_VALUE, -1, 0, 6, 101, Integer.MAX_VALUE}) {
            Check.due("result(" + none + ")", x.result(none), 0);
        }
        Check.end();
    }
}
