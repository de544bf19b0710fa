/** Promise 17: the store's epoch and the durable one. */
final class P17EpochTest {
    public static void main(String[] args) {
        EpochLeaves x = Check.withProcedures();
        row(x, 1, 0);
        x.advance();
        x.advance();
        row(x, 3, 0);
        for (int w = 3; w >= 0; w--) {
            row(x, 3, 0);
            x.flush(w);
        }
        row(x, 3, 2);
        x.advance();
        x.flush(2);
        row(x, 4, 2);
        x.crash();
        row(x, 3, 2);
        for (int what : new int[] {Integer.MIN_VALUE, -1, 2, Integer.MAX_VALUE}) {
            Check.due("epoch(" + what + ")", x.epoch(what), EpochLeaves.BAD);
        }
        Check.end();
    }

    private static void row(EpochLeaves x, int store, int durable) {
        Check.due("epoch(0)", x.epoch(0), store);
        Check.due("epoch(1)", x.epoch(1), durable);
    }
}
