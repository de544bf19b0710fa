/** Promise 9: crash loses what lies behind the durable epoch and makes the rest again. */
final class P09CrashTest {
    public static void main(String[] args) {
        ofANewObject();
        losesAndKeeps();
        latestStampCounts();
        dropsCount();
        makesLeavesAnew();
        losesRuns();
        emptiesAllKeys();
        stampsBeginAnew();
        marksFall();
        Check.end();
    }

    private static void ofANewObject() {
        EpochLeaves x = new EpochLeaves();
        Check.due("crash", x.crash(), 0);
        Check.due("epoch(0)", x.epoch(0), 1);
        Check.due("leaf(0, 0)", x.leaf(0, 0), 1);
        Check.due("leaf(0, 1)", x.leaf(0, 1), 0);
    }

    private static void losesAndKeeps() {
        EpochLeaves x = Check.withProcedures();
        Check.commit(x, 0, 1, 3, 30);
        Check.commit(x, 1, 1, 4, 40);
        x.advance();
        Check.commit(x, 0, 1, 3, 31);
        Check.commit(x, 2, 1, 5, 50);
        Check.flushAll(x);
        x.advance();
        Check.commit(x, 2, 1, 6, 60);
        x.flush(2);
        Check.due("durable in one log", x.log(2, 1), 2);
        Check.commit(x, 1, 1, 7, 70);
        Check.due("not durable", x.log(1, 1), 1);
        Check.due("crash", x.crash(), 1);
        Check.due("kept", x.transaction(1, 0) + x.transaction(2, 0), 6);
        Check.due("lost", x.transaction(3, 0) + x.transaction(4, 0) + x.transaction(5, 0), 15);
        Check.due("a lost one has no stamp", x.transaction(3, 1), 0);
        Check.due("a kept one has", x.transaction(1, 1), 1024);
        Check.due("results stay", x.result(1), 30);
        Check.due("the older value", x.entry(3, 1), 30);
        Check.due("its stamp", x.entry(3, 2), 1024);
        Check.due("the lost keys", x.entry(5, 0) + x.entry(6, 0), 0);
        Check.due("log(0, 0)", x.log(0, 0), 1);
        Check.due("log(0, 1)", x.log(0, 1), 1);
        Check.due("log(1, 0)", x.log(1, 0), 1);
        Check.due("log(1, 1)", x.log(1, 1), 1);
        Check.due("log(2, 0)", x.log(2, 0), 0);
        Check.due("log(2, 1)", x.log(2, 1), 0);
        Check.due("epoch(0)", x.epoch(0), 2);
        Check.due("numbers go on", x.start(0, 1, 3, 33), 7);
        Check.due("procedures stay", x.run(0, 100), 2);
        x.advance();
        Check.due("lost ones are not released", Check.flushAll(x), 1);
        Check.due("still lost", x.transaction(3, 0), 5);
        Check.due("the new one", x.result(7), 33);
    }

    private static void latestStampCounts() {
        EpochLeaves x = Check.withProcedures();
        for (int i = 0; i < 8; i++) {
            Check.commit(x, 3 - i % 4, 1, 9, 100 + i);
        }
        x.advance();
        Check.flushAll(x);
        x.crash();
        Check.due("the value with the greatest stamp", x.entry(9, 1), 107);
        Check.due("the greatest stamp", x.entry(9, 2), 1031);
        Check.due("a second crash", x.crash(), 1);
        Check.due("changes nothing", x.entry(9, 1), 107);
    }

    private static void dropsCount() {
        EpochLeaves x = Check.withProcedures();
        Check.commit(x, 0, 1, 9, 5);
        Check.commit(x, 1, 3, 9, 0);
        Check.commit(x, 1, 3, 8, 0);
        Check.commit(x, 2, 1, 8, 0);
        x.advance();
        Check.flushAll(x);
        x.crash();
        Check.due("dropped", x.entry(9, 0), 0);
        Check.due("it has no stamp", x.entry(9, 2), 0);
        Check.due("put again, with the value 0", x.entry(8, 0), 2);
        Check.commit(x, 3, 1, 9, 6);
        Check.due("a put behind the crash", x.transaction(5, 1), 2048);
        x.advance();
        Check.flushAll(x);
        x.crash();
        Check.due("counts more than the drop", x.entry(9, 1), 6);
    }

    private static void makesLeavesAnew() {
        EpochLeaves x = Check.withProcedures();
        for (int key = 31; key >= 0; key--) {
            Check.commit(x, 0, 1, key, key);
        }
        x.advance();
        Check.flushAll(x);
        x.crash();
        int places = 0;
        while (x.leaf(places, 0) != EpochLeaves.BAD) {
            Check.due("name at " + places, x.leaf(places, 0), places + 1);
            places++;
        }
        // By ascending keys each split leaves three in front: 10 times 3 and a last one with 2.
        Check.due("leaves", places, 11);
        Check.due("records of the last but one", x.leaf(9, 2), 3);
        Check.due("its version: two records were added, then a third with a split", x.leaf(9, 1), 4);
        Check.due("records of the last", x.leaf(10, 2), 2);
        Check.due("version of the last", x.leaf(10, 1), 0);
    }

    private static void emptiesAllKeys() {
        EpochLeaves x = Check.withProcedures();
        for (int key = 0; key < 32; key++) {
            Check.commit(x, 0, 1, key, 5);
        }
        Check.due("crash", x.crash(), 0);
        for (int key = 0; key < 32; key++) {
            for (int what = 0; what < 4; what++) {
                Check.due("entry(" + key + ", " + what + ")", x.entry(key, what), 0);
            }
        }
        Check.due("leaf(0, 2)", x.leaf(0, 2), 0);
        Check.due("leaf(1, 2)", x.leaf(1, 2), EpochLeaves.BAD);
    }

    private static void losesRuns() {
        EpochLeaves x = Check.withProcedures();
        Check.commit(x, 0, 1, 3, 30);
        x.advance();
        Check.flushAll(x);
        x.start(0, 0, 3, 1);
        x.start(1, 1, 4, 1);
        x.start(2, 1, 5, 1);
        x.start(3, 1, 6, 1);
        x.run(0, 2);
        x.run(1, 3);
        x.run(2, 4);
        x.run(3, 6);
        Check.due("half installed", x.entry(6, 0), 2);
        Check.due("crash", x.crash(), 1);
        for (int w = 0; w < 4; w++) {
            Check.due("lost " + w, x.transaction(w + 2, 0), 5);
            for (int what = 0; what < 7; what++) {
                Check.due("worker(" + w + ", " + what + ")", x.worker(w, what), 0);
            }
            Check.due("r0", x.register(w, 0), 0);
        }
        Check.due("kept", x.entry(3, 1), 30);
        Check.due("no others", x.entry(4, 0) + x.entry(5, 0) + x.entry(6, 0), 0);
        Check.due("no locks", x.entry(3, 3) + x.entry(4, 3) + x.entry(5, 3), 0);
        Check.due("version", x.leaf(0, 1), 1);
        Check.due("step", x.step(0), EpochLeaves.BUSY);
    }

    private static void stampsBeginAnew() {
        EpochLeaves x = Check.withProcedures();
        Check.commit(x, 0, 1, 3, 30);
        Check.commit(x, 0, 1, 3, 31);
        Check.due("crash", x.crash(), 0);
        Check.due("the epoch is 1 again", x.epoch(0), 1);
        int t = Check.commit(x, 0, 1, 3, 32);
        Check.due("the latest stamps are 0 again", x.transaction(t, 1), 1024);
        Check.due("the result of a lost one", x.result(1), 0);
    }

    private static void marksFall() {
        EpochLeaves x = Check.withProcedures();
        x.advance();
        Check.flushAll(x);
        x.advance();
        x.flush(0);
        Check.due("mark of 0", x.log(0, 2), 2);
        Check.due("crash", x.crash(), 1);
        for (int w = 0; w < 4; w++) {
            Check.due("mark of " + w, x.log(w, 2), 1);
        }
        Check.due("epoch(0)", x.epoch(0), 2);
        Check.due("epoch(1)", x.epoch(1), 1);
    }
}
