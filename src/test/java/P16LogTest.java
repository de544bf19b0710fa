/** Promise 16: what is told of a log. */
final class P16LogTest {
    public static void main(String[] args) {
        EpochLeaves x = Check.withProcedures();
        row(x, 0, 0, 0, 0);
        Check.commit(x, 0, 1, 3, 4);
        Check.commit(x, 0, 2, 3, 4);
        row(x, 0, 2, 0, 0);
        row(x, 1, 0, 0, 0);
        x.flush(0);
        row(x, 0, 2, 2, 0);
        x.advance();
        x.advance();
        Check.commit(x, 0, 1, 3, 5);
        row(x, 0, 3, 2, 0);
        x.start(0, 1, 40, 0);
        Check.due("it aborts", x.run(0, 100), 3);
        row(x, 0, 3, 2, 0);
        x.flush(1);
        row(x, 1, 0, 0, 2);
        row(x, 0, 3, 2, 0);
        x.flush(0);
        row(x, 0, 3, 3, 2);
        x.flush(2);
        x.flush(3);
        x.crash();
        row(x, 0, 2, 2, 2);
        for (int w : new int[] {Integer.MIN_VALUE, -1, 4, Integer.MAX_VALUE}) {
            for (int what = -1; what < 4; what++) {
                Check.due("log(" + w + ", " + what + ")", x.log(w, what), EpochLeaves.BAD);
            }
        }
        for (int what : new int[] {Integer.MIN_VALUE, -1, 3, Integer.MAX_VALUE}) {
            Check.due("log(0, " + what + ")", x.log(0, what), EpochLeaves.BAD);
        }
        Check.end();
    }

    private static void row(EpochLeaves x, int w, int many, int durable, int mark) {
        Check.due("log(" + w + ", 0)", x.log(w, 0), many);
        Check.due("log(" + w + ", 1)", x.log(w, 1), durable);
        Check.due("log(" + w + ", 2)", x.log(w, 2), mark);
    }
}
