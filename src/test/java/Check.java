/** What the tests share: counting of wrong answers, and procedures that many of them use. */
final class Check {
    static final int SET = 0;
    static final int ADD = 1;
    static final int SUB = 2;
    static final int MUL = 3;
    static final int LESS = 4;
    static final int ZERO = 5;
    static final int GET = 6;
    static final int PUT = 7;
    static final int DROP = 8;
    static final int SUM = 9;
    static final int GIVE = 10;
    static final int FAIL = 11;

    private static int wrong = 0;

    private Check() {
    }

    static void due(String call, int got, int want) {
        if (got != want) {
            wrong++;
            System.out.println(call + " answered " + got + ", due is " + want);
        }
    }

    static void due(String call, boolean got, boolean want) {
        due(call, got ? 1 : 0, want ? 1 : 0);
    }

    static void end() {
        System.out.println(wrong == 0 ? "all answers are as due" : wrong + " answers are not as due");
        if (wrong != 0) {
            System.exit(1);
        }
    }

    /** Procedure p: the key r0 gets the value r1, which is the result. */
    static void codePut(EpochLeaves x, int p) {
        x.code(p, PUT, 0, 1, 0);
        x.code(p, GIVE, 1, 0, 0);
    }

    /** Procedure p: the key r0 gets r1 more than it had, which is the result. */
    static void codeIncrease(EpochLeaves x, int p) {
        x.code(p, GET, 2, 0, 0);
        x.code(p, ADD, 2, 2, 1);
        x.code(p, PUT, 0, 2, 0);
        x.code(p, GIVE, 2, 0, 0);
    }

    /** Procedure p: the sum of the keys r0 to r1. */
    static void codeSum(EpochLeaves x, int p) {
        x.code(p, SUM, 2, 0, 1);
        x.code(p, GIVE, 2, 0, 0);
    }

    /** Procedure p: the key r0 gets no value. */
    static void codeDrop(EpochLeaves x, int p) {
        x.code(p, DROP, 0, 0, 0);
        x.code(p, GIVE, 0, 0, 0);
    }

    /** Increase in 0, put in 1, sum in 2, drop in 3. */
    static EpochLeaves withProcedures() {
        EpochLeaves x = new EpochLeaves();
        codeIncrease(x, 0);
        codePut(x, 1);
        codeSum(x, 2);
        codeDrop(x, 3);
        return x;
    }

    /** Runs procedure p on worker w until it is committed. */
    static int commit(EpochLeaves x, int w, int p, int a, int b) {
        int t = x.start(w, p, a, b);
        due("run of transaction " + t, x.run(w, 100), 2);
        return t;
    }

    /** Flushes all four logs: how many transactions were released. */
    static int flushAll(EpochLeaves x) {
        int released = 0;
        for (int w = 0; w < 4; w++) {
            released += x.flush(w);
        }
        return released;
    }
}
