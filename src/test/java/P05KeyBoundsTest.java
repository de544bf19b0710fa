/** Promise 5, its edges: keys 0 .. 31 and those beside them, in GET, PUT, DROP and SUM; what is seen of a key. */
final class P05KeyBoundsTest {
    private static final int[] OUTSIDE = {Integer.MIN_VALUE, -1, 32, Integer.MAX_VALUE};

    public static void main(String[] args) {
        firstAndLastKeyArePut();
        wrongKeysAbort();
        anAbortOfAWrongKeyDoesNothingElse();
        sumIsNeverAborted();
        sumBeginsAtZero();
        sumEndsAt31();
        sumOfOneKeyAndOfNone();
        sumOfAllKeys();
        sumWraps();
        sumIntoItsOwnBounds();
        valuesOfEverySize();
        getOfAKeyWithoutValue();
        getIntoItsOwnKey();
        theKeyOfAPutIsTakenAtOnce();
        aLaterWriteReplaces();
        ownWritesAreSeen();
        anOwnPutOf0IsAValue();
        Check.end();
    }

    private static void firstAndLastKeyArePut() {
        for (int key = 0; key < 32; key += 31) {
            EpochLeaves x = Check.withProcedures();
            Check.commit(x, 0, 1, key, 7);
            Check.due("put " + key, x.entry(key, 1), 7);
            Check.commit(x, 0, 0, key, 2);
            Check.due("got and put " + key, x.entry(key, 1), 9);
            Check.commit(x, 0, 3, key, 0);
            Check.due("dropped " + key, x.entry(key, 0), 1);
        }
    }

    private static void wrongKeysAbort() {
        for (int key : OUTSIDE) {
            for (int op = Check.GET; op <= Check.DROP; op++) {
                EpochLeaves x = new EpochLeaves();
                x.code(0, op, 0, 0, 0);
                x.start(1, 0, key, 5);
                Check.due("op " + op + " of the key " + key, x.step(1), 3);
                Check.due("its transaction", x.transaction(1, 0), 4);
                Check.due("its worker", x.worker(1, 0), 0);
            }
        }
    }

    private static void anAbortOfAWrongKeyDoesNothingElse() {
        EpochLeaves x = Check.withProcedures();
        Check.commit(x, 0, 1, 31, 6);
        x.clear(3);
        x.code(3, Check.PUT, 0, 1, 0);
        x.code(3, Check.PUT, 1, 0, 0);
        x.start(0, 3, 31, 32);
        Check.due("PUT of 31", x.step(0), 1);
        Check.due("PUT of 32", x.step(0), 3);
        int[] want = {2, 6, 1024, 0};
        for (int what = 0; what < 4; what++) {
            Check.due("entry(31, " + what + ")", x.entry(31, what), want[what]);
        }
        Check.due("records", x.leaf(0, 2), 1);
        Check.due("version", x.leaf(0, 1), 1);
        Check.due("log", x.log(0, 0), 1);
        int t = Check.commit(x, 0, 1, 3, 3);
        Check.due("an aborted one takes no stamp", x.transaction(t, 1), 1025);
    }

    private static void sumIsNeverAborted() {
        for (int least : OUTSIDE) {
            for (int greatest : OUTSIDE) {
                EpochLeaves x = Check.withProcedures();
                x.start(0, 2, least, greatest);
                Check.due("SUM of " + least + " to " + greatest, x.step(0), 1);
                boolean some = least <= 31 && greatest >= 0;
                Check.due("its nodes", x.worker(0, 6), some ? 1 : 0);
            }
        }
    }

    private static EpochLeaves withEnds() {
        EpochLeaves x = Check.withProcedures();
        int[] keys = {0, 1, 30, 31};
        for (int i = 0; i < 4; i++) {
            Check.commit(x, i, 1, keys[i], 1 << i);
        }
        return x;
    }

    private static void sumIs(int least, int greatest, int sum, int many) {
        EpochLeaves x = withEnds();
        x.start(0, 2, least, greatest);
        Check.due("its step", x.step(0), 1);
        String of = " of " + least + " to " + greatest;
        Check.due("SUM" + of, x.register(0, 2), sum);
        Check.due("how many" + of, x.register(0, 7), many);
        Check.due("reads" + of, x.worker(0, 5), many);
        Check.due("its end" + of, x.run(0, 100), 2);
    }

    private static void sumBeginsAtZero() {
        sumIs(Integer.MIN_VALUE, 1, 3, 2);
        sumIs(-1, 1, 3, 2);
        sumIs(0, 1, 3, 2);
        sumIs(1, 1, 2, 1);
        sumIs(-1, 0, 1, 1);
        sumIs(-2, -1, 0, 0);
    }

    private static void sumEndsAt31() {
        sumIs(30, Integer.MAX_VALUE, 12, 2);
        sumIs(30, 32, 12, 2);
        sumIs(30, 31, 12, 2);
        sumIs(30, 30, 4, 1);
        sumIs(31, 32, 8, 1);
        sumIs(32, 33, 0, 0);
    }

    private static void sumOfOneKeyAndOfNone() {
        sumIs(0, 0, 1, 1);
        sumIs(31, 31, 8, 1);
        sumIs(15, 15, 0, 0);
        sumIs(1, 0, 0, 0);
        sumIs(31, 30, 0, 0);
        sumIs(Integer.MAX_VALUE, Integer.MIN_VALUE, 0, 0);
        EpochLeaves x = withEnds();
        x.start(0, 2, 31, 30);
        x.step(0);
        Check.due("an empty SUM keeps no node", x.worker(0, 6), 0);
    }

    private static void sumOfAllKeys() {
        EpochLeaves x = Check.withProcedures();
        for (int key = 0; key < 32; key++) {
            Check.commit(x, 0, 1, key, 1000 + key);
        }
        x.start(1, 2, 0, 31);
        x.step(1);
        Check.due("the sum of all", x.register(1, 2), 32 * 1000 + 31 * 16);
        Check.due("all 32", x.register(1, 7), 32);
        Check.due("all are read", x.worker(1, 5), 32);
        Check.due("all leaves are nodes", x.worker(1, 6), 11);
        Check.due("its end", x.run(1, 100), 2);
    }

    private static void sumWraps() {
        int[][] rows = {{Integer.MAX_VALUE, 0, Integer.MAX_VALUE}, {Integer.MAX_VALUE, 1, Integer.MIN_VALUE},
            {Integer.MIN_VALUE, -1, Integer.MAX_VALUE}, {Integer.MIN_VALUE, Integer.MIN_VALUE, 0}};
        for (int[] row : rows) {
            EpochLeaves x = Check.withProcedures();
            Check.commit(x, 0, 1, 4, row[0]);
            Check.commit(x, 0, 1, 5, row[1]);
            x.start(0, 2, 0, 31);
            x.step(0);
            Check.due("SUM of " + row[0] + " and " + row[1], x.register(0, 2), row[2]);
            Check.due("two have a value", x.register(0, 7), 2);
        }
    }

    private static void sumIntoItsOwnBounds() {
        for (int a = 0; a < 2; a++) {
            EpochLeaves x = withEnds();
            x.clear(3);
            x.code(3, Check.SUM, a, 0, 1);
            x.start(0, 3, 0, 31);
            x.step(0);
            Check.due("SUM into r" + a, x.register(0, a), 15);
        }
        EpochLeaves x = withEnds();
        x.clear(3);
        x.code(3, Check.SET, 7, 30, 0);
        x.code(3, Check.SUM, 2, 7, 1);
        x.start(0, 3, 0, 31);
        x.run(0, 2);
        Check.due("SUM from r7", x.register(0, 2), 12);
        Check.due("r7 then", x.register(0, 7), 2);
    }

    private static void valuesOfEverySize() {
        for (int value : new int[] {Integer.MIN_VALUE, -1, 0, 1, Integer.MAX_VALUE}) {
            EpochLeaves x = Check.withProcedures();
            Check.commit(x, 0, 1, 8, value);
            Check.due("it is present", x.entry(8, 0), 2);
            Check.due("its value", x.entry(8, 1), value);
            x.start(1, 0, 8, 0);
            x.step(1);
            Check.due("GET of it", x.register(1, 2), value);
            Check.due("r7", x.register(1, 7), 1);
        }
    }

    private static void getOfAKeyWithoutValue() {
        EpochLeaves x = Check.withProcedures();
        Check.commit(x, 0, 1, 8, 55);
        Check.commit(x, 0, 3, 8, 0);
        x.clear(2);
        x.code(2, Check.SET, 2, 44, 0);
        x.code(2, Check.SET, 7, 44, 0);
        x.code(2, Check.GET, 2, 0, 0);
        x.start(1, 2, 8, 0);
        x.start(2, 2, 9, 0);
        for (int w = 1; w <= 2; w++) {
            x.run(w, 3);
            Check.due("GET of a key without value", x.register(w, 2), 0);
            Check.due("r7", x.register(w, 7), 0);
        }
        Check.due("the absent record is a read", x.worker(1, 5), 1);
        Check.due("and no node", x.worker(1, 6), 0);
        Check.due("without a record there is no read", x.worker(2, 5), 0);
        Check.due("but a node", x.worker(2, 6), 1);
    }

    private static void getIntoItsOwnKey() {
        EpochLeaves x = Check.withProcedures();
        Check.commit(x, 0, 1, 8, 9);
        x.clear(2);
        x.code(2, Check.GET, 0, 0, 0);
        x.code(2, Check.GET, 0, 0, 0);
        x.start(1, 2, 8, 0);
        x.step(1);
        Check.due("GET r0 of r0", x.register(1, 0), 9);
        x.step(1);
        Check.due("GET of the key that it got", x.register(1, 0), 0);
        Check.due("one read", x.worker(1, 5), 1);
        Check.due("one node", x.worker(1, 6), 1);
    }

    private static void theKeyOfAPutIsTakenAtOnce() {
        EpochLeaves x = new EpochLeaves();
        x.code(0, Check.PUT, 0, 1, 0);
        x.code(0, Check.SET, 0, 20, 0);
        x.code(0, Check.SET, 1, 30, 0);
        Check.commit(x, 0, 0, 8, 9);
        Check.due("the value that was in r1 then", x.entry(8, 1), 9);
        Check.due("no other key", x.entry(20, 0), 0);
    }

    private static void aLaterWriteReplaces() {
        int[][] rows = {{Check.DROP, Check.DROP, Check.PUT}, {Check.PUT, Check.DROP, Check.PUT},
            {Check.PUT, Check.PUT, Check.PUT}, {Check.DROP, Check.PUT, Check.DROP}};
        for (int[] ops : rows) {
            EpochLeaves x = new EpochLeaves();
            for (int i = 0; i < 3; i++) {
                x.code(0, ops[i], 0, ops[i] == Check.PUT && i == 2 ? 1 : 0, 0);
            }
            x.start(0, 0, 8, 9);
            for (int i = 0; i < 3; i++) {
                x.step(0);
                Check.due("one write", x.worker(0, 4), 1);
            }
            Check.due("its end", x.run(0, 100), 2);
            boolean put = ops[2] == Check.PUT;
            Check.due("the last write counts", x.entry(8, 0), put ? 2 : 1);
            Check.due("with its value", x.entry(8, 1), put ? 9 : 0);
            Check.due("one record", x.leaf(0, 2), 1);
        }
    }

    private static void ownWritesAreSeen() {
        EpochLeaves x = Check.withProcedures();
        Check.commit(x, 0, 1, 0, 5);
        Check.commit(x, 0, 1, 31, 6);
        x.clear(2);
        x.code(2, Check.DROP, 2, 0, 0);
        x.code(2, Check.PUT, 1, 0, 0);
        x.code(2, Check.GET, 3, 2, 0);
        x.code(2, Check.GET, 4, 1, 0);
        x.code(2, Check.SUM, 5, 2, 1);
        x.start(1, 2, 100, 31);
        x.run(1, 3);
        Check.due("the dropped key 0", x.register(1, 3), 0);
        Check.due("r7", x.register(1, 7), 0);
        x.step(1);
        Check.due("the put key 31", x.register(1, 4), 100);
        Check.due("r7", x.register(1, 7), 1);
        Check.due("nothing is kept: reads", x.worker(1, 5), 0);
        Check.due("nothing is kept: nodes", x.worker(1, 6), 0);
        x.step(1);
        Check.due("SUM of both", x.register(1, 5), 100);
        Check.due("one has a value", x.register(1, 7), 1);
        Check.due("SUM keeps no read of them", x.worker(1, 5), 0);
    }

    private static void anOwnPutOf0IsAValue() {
        EpochLeaves x = Check.withProcedures();
        Check.commit(x, 0, 1, 9, 5);
        x.clear(2);
        x.code(2, Check.PUT, 0, 1, 0);
        x.code(2, Check.GET, 2, 0, 0);
        x.code(2, Check.SUM, 3, 1, 0);
        x.start(1, 2, 9, 0);
        x.run(1, 2);
        Check.due("GET of it", x.register(1, 2), 0);
        Check.due("it is a value", x.register(1, 7), 1);
        x.step(1);
        Check.due("SUM of 0 to 9", x.register(1, 3), 0);
        Check.due("one has a value", x.register(1, 7), 1);
    }
}
