/** Promise 16, its edges: the first and the last log, those beside them, and the three questions. */
final class P16LogBoundsTest {
    public static void main(String[] args) {
        noSuchLog();
        otherQuestions();
        empty();
        firstAndLast();
        noneDurableAndAllDurable();
        abortsAreNotLogged();
        a100InOneLog();
        behindACrash();
        Check.end();
    }

    private static void row(EpochLeaves x, int w, int many, int durable, int mark) {
        Check.due("log(" + w + ", 0)", x.log(w, 0), many);
        Check.due("log(" + w + ", 1)", x.log(w, 1), durable);
        Check.due("log(" + w + ", 2)", x.log(w, 2), mark);
    }

    private static void noSuchLog() {
        for (int w : new int[] {Integer.MIN_VALUE, -1, 4, Integer.MAX_VALUE}) {
            for (int what = 0; what < 3; what++) {
                int each = what;
                Twin.refusedAnywhere("log(" + w + ", " + what + ")", x -> x.log(w, each), EpochLeaves.BAD);
            }
        }
    }

    private static void otherQuestions() {
        for (int what : new int[] {Integer.MIN_VALUE, -1, 3, Integer.MAX_VALUE}) {
            for (int w = -1; w <= 4; w++) {
                int each = w;
                Twin.refusedAnywhere("log(" + w + ", " + what + ")", x -> x.log(each, what), EpochLeaves.BAD);
            }
        }
    }

    private static void empty() {
        EpochLeaves x = new EpochLeaves();
        for (int w = 0; w < 4; w++) {
            row(x, w, 0, 0, 0);
        }
    }

    private static void firstAndLast() {
        for (int w = 0; w < 4; w += 3) {
            EpochLeaves x = Check.withProcedures();
            Check.commit(x, w, 1, 9, 1);
            x.advance();
            x.flush(w);
            row(x, w, 1, 1, 1);
            row(x, 3 - w, 0, 0, 0);
        }
    }

    private static void noneDurableAndAllDurable() {
        EpochLeaves x = Check.withProcedures();
        for (int i = 1; i <= 3; i++) {
            Check.commit(x, 1, 1, 9, i);
            row(x, 1, i, i - 1, i - 1);
            x.advance();
            x.flush(1);
            row(x, 1, i, i, i);
        }
        x.flush(1);
        row(x, 1, 3, 3, 3);
    }

    private static void abortsAreNotLogged() {
        EpochLeaves x = Check.withProcedures();
        x.start(0, 1, 32, 1);
        x.run(0, 100);
        row(x, 0, 0, 0, 0);
        Made.atInstalling(x, 0, 9);
        x.step(0);
        row(x, 0, 0, 0, 0);
        Check.due("the commit", x.step(0), 2);
        row(x, 0, 1, 0, 0);
    }

    private static void a100InOneLog() {
        EpochLeaves x = Check.withProcedures();
        for (int t = 1; t <= 100; t++) {
            x.start(2, 1, 9, t);
            x.run(2, 100);
            Check.due("log(2, 0)", x.log(2, 0), t);
        }
        x.flush(2);
        row(x, 2, 100, 100, 0);
    }

    private static void behindACrash() {
        EpochLeaves x = Check.withProcedures();
        Check.commit(x, 0, 1, 9, 1);
        Check.commit(x, 1, 1, 10, 1);
        x.advance();
        Check.flushAll(x);
        Check.commit(x, 0, 1, 9, 2);
        x.flush(0);
        Check.commit(x, 0, 1, 9, 3);
        row(x, 0, 3, 2, 1);
        x.crash();
        row(x, 0, 1, 1, 1);
        row(x, 1, 1, 1, 1);
        row(x, 2, 0, 0, 1);
    }
}
