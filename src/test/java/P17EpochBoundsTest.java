/** Promise 17, its edges: the two questions and those beside them; the least of the four marks. */
final class P17EpochBoundsTest {
    public static void main(String[] args) {
        otherQuestions();
        atFirst();
        theLeastOfFourMarks();
        aRefusedAdvance();
        behindACrash();
        Check.end();
    }

    private static void row(EpochLeaves x, int store, int durable) {
        Check.due("epoch(0)", x.epoch(0), store);
        Check.due("epoch(1)", x.epoch(1), durable);
    }

    private static void otherQuestions() {
        for (int what : new int[] {Integer.MIN_VALUE, -1, 2, Integer.MAX_VALUE}) {
            Twin.refusedAnywhere("epoch(" + what + ")", x -> x.epoch(what), EpochLeaves.BAD);
        }
    }

    private static void atFirst() {
        row(new EpochLeaves(), 1, 0);
    }

    private static void theLeastOfFourMarks() {
        for (int least = 0; least < 4; least++) {
            EpochLeaves x = new EpochLeaves();
            x.advance();
            x.flush(least);
            x.advance();
            for (int w = 0; w < 4; w++) {
                if (w != least) {
                    row(x, 3, 0);
                    x.flush(w);
                }
            }
            row(x, 3, 1);
            x.flush(least);
            row(x, 3, 2);
        }
    }

    private static void aRefusedAdvance() {
        EpochLeaves x = Check.withProcedures();
        Made.atFence(x, 0, 9);
        x.advance();
        row(x, 2, 0);
        Check.due("advance", x.advance(), EpochLeaves.BUSY);
        row(x, 2, 0);
    }

    private static void behindACrash() {
        EpochLeaves x = new EpochLeaves();
        x.advance();
        x.advance();
        x.crash();
        row(x, 1, 0);
        x.advance();
        x.advance();
        Check.flushAll(x);
        x.advance();
        row(x, 4, 2);
        x.crash();
        row(x, 3, 2);
    }
}
