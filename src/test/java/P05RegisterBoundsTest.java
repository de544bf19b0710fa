/** Promise 5, its edges: registers that wrap, jumps to the ends of a procedure, results of every size. */
final class P05RegisterBoundsTest {
    private static final int LEAST = Integer.MIN_VALUE;
    private static final int GREATEST = Integer.MAX_VALUE;

    public static void main(String[] args) {
        addWraps();
        subWraps();
        mulWraps();
        lessAtTheEnds();
        setAtTheEnds();
        aRegisterOnBothSides();
        theLastRegister();
        zeroOfZeroAlone();
        zeroToTheFirstAndToItself();
        zeroToTheLastAndBehindIt();
        zeroBehindTheLastOfAShortOne();
        resultsOfEverySize();
        givesZeroBehindItsLast();
        theStepBehindTheLast();
        failAborts();
        Check.end();
    }

    private static int reckoned(int op, int x, int y) {
        EpochLeaves store = new EpochLeaves();
        store.code(0, op, 2, 0, 1);
        store.start(0, 0, x, y);
        Check.due("its step", store.step(0), 1);
        return store.register(0, 2);
    }

    private static void addWraps() {
        Check.due("ADD below the greatest", reckoned(Check.ADD, GREATEST - 1, 1), GREATEST);
        Check.due("ADD beyond the greatest", reckoned(Check.ADD, GREATEST, 1), LEAST);
        Check.due("ADD above the least", reckoned(Check.ADD, LEAST + 1, -1), LEAST);
        Check.due("ADD beyond the least", reckoned(Check.ADD, LEAST, -1), GREATEST);
        Check.due("ADD of the least to itself", reckoned(Check.ADD, LEAST, LEAST), 0);
        Check.due("ADD of the greatest to itself", reckoned(Check.ADD, GREATEST, GREATEST), -2);
    }

    private static void subWraps() {
        Check.due("SUB above the least", reckoned(Check.SUB, LEAST + 1, 1), LEAST);
        Check.due("SUB beyond the least", reckoned(Check.SUB, LEAST, 1), GREATEST);
        Check.due("SUB beyond the greatest", reckoned(Check.SUB, GREATEST, -1), LEAST);
        Check.due("SUB of the least from 0", reckoned(Check.SUB, 0, LEAST), LEAST);
        Check.due("SUB of the greatest from the least", reckoned(Check.SUB, LEAST, GREATEST), 1);
    }

    private static void mulWraps() {
        Check.due("MUL just fits", reckoned(Check.MUL, 46340, 46340), 2147395600);
        Check.due("MUL just does not", reckoned(Check.MUL, 46341, 46341), -2147479015);
        Check.due("MUL of 65536", reckoned(Check.MUL, 65536, 65536), 0);
        Check.due("MUL of the least by -1", reckoned(Check.MUL, LEAST, -1), LEAST);
        Check.due("MUL of the greatest by itself", reckoned(Check.MUL, GREATEST, GREATEST), 1);
        Check.due("MUL by 0", reckoned(Check.MUL, LEAST, 0), 0);
    }

    private static void lessAtTheEnds() {
        Check.due("LESS by one", reckoned(Check.LESS, 4, 5), 1);
        Check.due("LESS of the same", reckoned(Check.LESS, 5, 5), 0);
        Check.due("LESS of more", reckoned(Check.LESS, 6, 5), 0);
        Check.due("LESS of least and greatest", reckoned(Check.LESS, LEAST, GREATEST), 1);
        Check.due("LESS of greatest and least", reckoned(Check.LESS, GREATEST, LEAST), 0);
        Check.due("LESS of least and least", reckoned(Check.LESS, LEAST, LEAST), 0);
    }

    private static void setAtTheEnds() {
        EpochLeaves x = new EpochLeaves();
        x.code(0, Check.SET, 0, -1000, 0);
        x.code(0, Check.SET, 7, 1000, 0);
        x.code(0, Check.SET, 0, 0, 0);
        x.start(0, 0, 5, 5);
        x.step(0);
        Check.due("SET -1000", x.register(0, 0), -1000);
        x.step(0);
        Check.due("SET 1000", x.register(0, 7), 1000);
        x.step(0);
        Check.due("SET 0", x.register(0, 0), 0);
    }

    private static void aRegisterOnBothSides() {
        EpochLeaves x = new EpochLeaves();
        x.code(0, Check.ADD, 0, 0, 0);
        x.code(0, Check.MUL, 0, 0, 0);
        x.code(0, Check.LESS, 0, 1, 0);
        x.code(0, Check.SUB, 0, 0, 0);
        x.start(0, 0, 3, 9);
        int[] want = {6, 36, 1, 0};
        for (int i = 0; i < 4; i++) {
            x.step(0);
            Check.due("r0 behind instruction " + i, x.register(0, 0), want[i]);
        }
    }

    private static void theLastRegister() {
        EpochLeaves x = new EpochLeaves();
        x.code(0, Check.ADD, 7, 0, 1);
        x.code(0, Check.MUL, 6, 7, 7);
        x.code(0, Check.PUT, 7, 7, 0);
        x.code(0, Check.GIVE, 7, 0, 0);
        int t = x.start(3, 0, 2, 3);
        x.run(3, 2);
        Check.due("r7", x.register(3, 7), 5);
        Check.due("r6", x.register(3, 6), 25);
        x.run(3, 100);
        Check.due("PUT by r7", x.entry(5, 1), 5);
        x.advance();
        Check.flushAll(x);
        Check.due("GIVE of r7", x.result(t), 5);
    }

    private static void zeroOfZeroAlone() {
        for (int value : new int[] {LEAST, -1, 0, 1, 65536, GREATEST}) {
            EpochLeaves x = new EpochLeaves();
            x.code(0, Check.ZERO, 0, 9, 0);
            x.start(0, 0, value, 0);
            Check.due("ZERO of " + value, x.step(0), 1);
            Check.due("the next one", x.worker(0, 2), value == 0 ? 9 : 1);
        }
    }

    private static void zeroToTheFirstAndToItself() {
        EpochLeaves x = new EpochLeaves();
        x.code(0, Check.SET, 2, 4, 0);
        x.code(0, Check.ZERO, 0, 1, 0);
        x.start(0, 0, 0, 0);
        x.step(0);
        for (int i = 0; i < 3; i++) {
            x.step(0);
            Check.due("ZERO to itself", x.worker(0, 2), 1);
        }
        x.code(1, Check.SET, 2, 4, 0);
        x.code(1, Check.ZERO, 0, 0, 0);
        x.start(1, 1, 0, 0);
        x.run(1, 2);
        Check.due("ZERO to the first", x.worker(1, 2), 0);
        Check.due("it goes on there", x.run(1, 1), 1);
        Check.due("and on", x.worker(1, 2), 1);
    }

    private static void zeroToTheLastAndBehindIt() {
        EpochLeaves x = new EpochLeaves();
        x.code(0, Check.ZERO, 2, 15, 0);
        for (int place = 1; place < 15; place++) {
            x.code(0, Check.FAIL, 0, 0, 0);
        }
        x.start(0, 0, 7, 0);
        x.step(0);
        Check.due("15 is behind the last", x.worker(0, 2), 15);
        Check.due("there it gives", x.step(0), 1);
        Check.due("LOCKING", x.worker(0, 0), 2);
        Check.due("code number 16", x.code(0, Check.SET, 3, 33, 0), 15);
        x.start(1, 0, 7, 0);
        x.step(1);
        Check.due("15 is the last one now", x.worker(1, 2), 15);
        x.step(1);
        Check.due("it is done", x.register(1, 3), 33);
        Check.due("it still runs", x.worker(1, 0), 1);
        x.step(1);
        Check.due("then it gives", x.worker(1, 0), 2);
    }

    private static void zeroBehindTheLastOfAShortOne() {
        for (int target = 0; target < 16; target++) {
            EpochLeaves x = new EpochLeaves();
            x.code(0, Check.ZERO, 2, target, 0);
            x.code(0, Check.FAIL, 0, 0, 0);
            x.start(0, 0, 0, 0);
            x.step(0);
            int due = target == 1 ? 3 : 1;
            Check.due("the step behind ZERO to " + target, x.step(0), due);
            int state = target == 0 ? 1 : target == 1 ? 0 : 2;
            Check.due("the state behind ZERO to " + target, x.worker(0, 0), state);
        }
    }

    private static void resultsOfEverySize() {
        for (int value : new int[] {LEAST, -1001, -1, 0, 1, 1001, GREATEST}) {
            EpochLeaves x = new EpochLeaves();
            x.code(0, Check.GIVE, 1, 0, 0);
            Check.commit(x, 0, 0, 5, value);
            x.advance();
            Check.flushAll(x);
            Check.due("the result " + value, x.result(1), value);
        }
    }

    private static void givesZeroBehindItsLast() {
        EpochLeaves x = new EpochLeaves();
        for (int r = 0; r < 8; r++) {
            x.code(0, Check.SET, r, 9, 0);
        }
        Check.commit(x, 0, 0, 8, 8);
        x.advance();
        Check.due("released", Check.flushAll(x), 1);
        Check.due("its result", x.result(1), 0);
    }

    private static void theStepBehindTheLast() {
        EpochLeaves x = new EpochLeaves();
        x.code(0, Check.SET, 0, 9, 0);
        x.start(0, 0, 8, 8);
        Check.due("the instruction", x.step(0), 1);
        Check.due("it is behind it", x.worker(0, 2), 1);
        Check.due("it runs still", x.worker(0, 0), 1);
        Check.due("the giving takes a step", x.step(0), 1);
        Check.due("it is LOCKING", x.worker(0, 0), 2);
        Check.due("registers stay", x.register(0, 0), 9);
    }

    private static void failAborts() {
        EpochLeaves x = new EpochLeaves();
        x.code(0, Check.PUT, 0, 1, 0);
        x.code(0, Check.FAIL, 0, 0, 0);
        x.code(0, Check.GIVE, 1, 0, 0);
        x.start(0, 0, 5, 6);
        x.step(0);
        Check.due("FAIL", x.step(0), 3);
        Check.due("aborted", x.transaction(1, 0), 4);
        Check.due("its write is gone", x.entry(5, 0), 0);
        Check.due("no leaf was changed", x.leaf(0, 1), 0);
    }
}
