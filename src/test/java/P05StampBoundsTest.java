/** Promise 5, its edges: the least stamp of an epoch that is greater than all that counts; and installing by steps. */
final class P05StampBoundsTest {
    public static void main(String[] args) {
        anEpochBeginsWithNumber0();
        oneMoreThanItsLatest();
        oneMoreThanWhatItRead();
        oneMoreThanWhatItWritesOver();
        theGreatestOfThree();
        whatDoesNotCount();
        anAbsentReadCounts();
        ofTheEpochOfItsFence();
        latestStampsAre0BehindACrash();
        installsFromTheLeastKeyOn();
        installsAValueOrNone();
        theCommitIsAStepOfItsOwn();
        Check.end();
    }

    private static int stampOf(EpochLeaves x, int w, int p, int a, int b) {
        return x.transaction(Check.commit(x, w, p, a, b), 1);
    }

    private static void anEpochBeginsWithNumber0() {
        EpochLeaves x = Check.withProcedures();
        for (int epoch = 1; epoch <= 4; epoch++) {
            Check.due("the first stamp", stampOf(x, 0, 1, 9, 1), 1024 * epoch);
            Check.due("the second stamp", stampOf(x, 0, 1, 9, 1), 1024 * epoch + 1);
            Check.due("its record's", x.entry(9, 2), 1024 * epoch + 1);
            x.advance();
        }
    }

    private static void oneMoreThanItsLatest() {
        EpochLeaves x = Check.withProcedures();
        for (int i = 0; i < 4; i++) {
            Check.due("stamp " + i + " of worker 0", stampOf(x, 0, 1, i, 1), 1024 + i);
        }
        Check.due("a worker by itself", stampOf(x, 1, 1, 9, 1), 1024);
    }

    private static void oneMoreThanWhatItRead() {
        EpochLeaves x = Check.withProcedures();
        Check.commit(x, 0, 1, 9, 1);
        Check.commit(x, 0, 1, 9, 1);
        Check.commit(x, 0, 1, 10, 1);
        Check.due("what 9 has", x.entry(9, 2), 1025);
        Check.due("it read 9", stampOf(x, 1, 2, 9, 9), 1026);
        Check.due("reading leaves it", x.entry(9, 2), 1025);
        Check.due("it read 9 and 10", stampOf(x, 2, 2, 9, 10), 1027);
    }

    private static void oneMoreThanWhatItWritesOver() {
        EpochLeaves x = Check.withProcedures();
        Check.commit(x, 0, 1, 9, 1);
        Check.commit(x, 0, 1, 9, 1);
        Check.due("it puts 9", stampOf(x, 1, 1, 9, 1), 1026);
        Check.due("it drops 9", stampOf(x, 2, 3, 9, 1), 1027);
    }

    private static void theGreatestOfThree() {
        for (int greatest = 0; greatest < 3; greatest++) {
            EpochLeaves x = Check.withProcedures();
            x.clear(3);
            x.code(3, Check.GET, 2, 0, 0);
            x.code(3, Check.PUT, 1, 1, 0);
            // Worker 1 writes key 5, worker 2 key 6, worker 0 key 7; one of them does so three times.
            for (int i = 0; i < 3; i++) {
                int w = (i + 1) % 3;
                for (int times = 0; times < (i == greatest ? 3 : 1); times++) {
                    Check.commit(x, w, 1, 5 + i, 1);
                }
            }
            Check.due("the greatest is case " + greatest, stampOf(x, 0, 3, 5, 6), 1027);
        }
    }

    private static void whatDoesNotCount() {
        EpochLeaves x = Check.withProcedures();
        Check.commit(x, 0, 1, 9, 1);
        Check.commit(x, 0, 1, 9, 1);
        Check.due("a record beside", stampOf(x, 1, 1, 10, 1), 1024);
        Check.due("a leaf that it sees", stampOf(x, 2, 2, 20, 31), 1024);
        x.start(3, 1, 32, 1);
        x.run(3, 100);
        Check.due("an aborted run", stampOf(x, 3, 1, 11, 1), 1024);
    }

    private static void anAbsentReadCounts() {
        EpochLeaves x = Check.withProcedures();
        Check.commit(x, 0, 1, 9, 1);
        Check.commit(x, 0, 3, 9, 1);
        Check.due("it read the absent 9", stampOf(x, 1, 2, 9, 9), 1026);
    }

    private static void ofTheEpochOfItsFence() {
        EpochLeaves x = Check.withProcedures();
        Made.atFence(x, 0, 9);
        x.advance();
        Check.due("one of epoch 2", stampOf(x, 1, 1, 10, 1), 2048);
        Check.due("the end of that of epoch 1", x.run(0, 100), 2);
        Check.due("its stamp", x.transaction(1, 1), 1024);
        Check.due("its record", x.entry(9, 2), 1024);
        Check.due("the next of the same worker", stampOf(x, 0, 1, 9, 1), 2048);
    }

    private static void latestStampsAre0BehindACrash() {
        EpochLeaves x = Check.withProcedures();
        for (int w = 0; w < 4; w++) {
            Check.commit(x, w, 1, w, 1);
            Check.commit(x, w, 1, w, 1);
        }
        Check.due("d", x.crash(), 0);
        for (int w = 0; w < 4; w++) {
            Check.due("the first of worker " + w + " again", stampOf(x, w, 1, w, 1), 1024);
        }
    }

    /** Worker 0 is INSTALLING, with a put of 31, a drop of 0 and a put of 9. */
    private static EpochLeaves installing() {
        EpochLeaves x = Check.withProcedures();
        Check.commit(x, 1, 1, 0, 5);
        x.clear(2);
        x.code(2, Check.PUT, 1, 0, 0);
        x.code(2, Check.DROP, 2, 0, 0);
        x.code(2, Check.PUT, 0, 1, 0);
        x.start(0, 2, 9, 31);
        x.run(0, 9);
        Check.due("INSTALLING", x.worker(0, 0), 4);
        return x;
    }

    private static void rows(EpochLeaves x, int[][] want) {
        int[] keys = {0, 9, 31};
        for (int i = 0; i < 3; i++) {
            for (int what = 0; what < 4; what++) {
                Check.due("entry(" + keys[i] + ", " + what + ")", x.entry(keys[i], what), want[i][what]);
            }
        }
    }

    private static void installsFromTheLeastKeyOn() {
        EpochLeaves x = installing();
        rows(x, new int[][] {{2, 5, 1024, 1}, {1, 0, 0, 1}, {1, 0, 0, 1}});
        Check.due("the first", x.step(0), 1);
        rows(x, new int[][] {{1, 0, 1025, 0}, {1, 0, 0, 1}, {1, 0, 0, 1}});
        Check.due("the second", x.step(0), 1);
        rows(x, new int[][] {{1, 0, 1025, 0}, {2, 31, 1025, 0}, {1, 0, 0, 1}});
        Check.due("the third", x.step(0), 1);
        rows(x, new int[][] {{1, 0, 1025, 0}, {2, 31, 1025, 0}, {2, 9, 1025, 0}});
        Check.due("still INSTALLING", x.worker(0, 0), 4);
    }

    private static void installsAValueOrNone() {
        EpochLeaves x = installing();
        Check.due("the commit", x.run(0, 100), 2);
        Check.due("a drop leaves an absent record", x.entry(0, 0), 1);
        Check.due("without a value", x.entry(0, 1), 0);
        Check.commit(x, 1, 1, 0, 0);
        Check.due("a put of 0 is present", x.entry(0, 0), 2);
        Check.commit(x, 1, 3, 20, 0);
        Check.due("a drop of a key without record", x.entry(20, 0), 1);
        Check.due("has a stamp", x.entry(20, 2), 1027);
    }

    private static void theCommitIsAStepOfItsOwn() {
        EpochLeaves x = installing();
        x.run(0, 3);
        Check.due("all is installed", x.entry(31, 0), 2);
        Check.due("it runs still", x.transaction(2, 0), 1);
        Check.due("not in the log", x.log(0, 0), 0);
        Check.due("the commit", x.step(0), 2);
        Check.due("COMMITTED", x.transaction(2, 0), 2);
        Check.due("in the log", x.log(0, 0), 1);
        Check.due("not durable", x.log(0, 1), 0);
        Check.due("idle", x.worker(0, 0), 0);
    }
}
