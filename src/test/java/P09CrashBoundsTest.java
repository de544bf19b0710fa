/** Promise 9, its edges: the epochs at and behind the durable one, nothing in the logs, leaves at a split. */
final class P09CrashBoundsTest {
    public static void main(String[] args) {
        withoutADurableEpoch();
        atTheDurableEpoch();
        durableInItsLogButLost();
        everyStateIsLost();
        noLeafIsLeft();
        fourAndFiveRecords();
        leavesAreByKeysNotByAge();
        absentRecordsAreNotMadeAgain();
        theGreatestStampOfAllLogs();
        theGreatestThatIsNotLost();
        valuesOfEverySize();
        theNextNameBehindACrash();
        marksAndEpochs();
        twoCrashes();
        whatStays();
        aDropOutlivesTheCrash();
        Check.end();
    }

    private static void withoutADurableEpoch() {
        EpochLeaves x = Check.withProcedures();
        Check.commit(x, 0, 1, 9, 1);
        x.advance();
        x.flush(0);
        x.flush(1);
        x.flush(2);
        Check.due("crash", x.crash(), 0);
        Check.due("lost", x.transaction(1, 0), 5);
        Check.due("no record", x.entry(9, 0), 0);
        Check.due("its log", x.log(0, 0) + x.log(0, 1), 0);
        Check.due("its mark", x.log(0, 2), 0);
        Check.due("epoch(0)", x.epoch(0), 1);
        Check.due("a crash of an empty one", x.crash(), 0);
    }

    /** Worker w has committed key 10 * w + e with e in each of the epochs 1 to 3; the durable epoch is 2. */
    private static EpochLeaves withThreeEpochs() {
        EpochLeaves x = Check.withProcedures();
        for (int epoch = 1; epoch <= 3; epoch++) {
            for (int w = 0; w < 3; w++) {
                Check.commit(x, w, 1, 10 * w + epoch, epoch);
            }
            if (epoch < 3) {
                x.advance();
            }
        }
        Check.flushAll(x);
        Check.due("the durable epoch", x.epoch(1), 2);
        return x;
    }

    private static void atTheDurableEpoch() {
        EpochLeaves x = withThreeEpochs();
        Check.due("crash", x.crash(), 2);
        for (int w = 0; w < 3; w++) {
            Check.due("of epoch 1", x.entry(10 * w + 1, 1), 1);
            Check.due("of epoch 2", x.entry(10 * w + 2, 2), 2048);
            Check.due("of epoch 3", x.entry(10 * w + 3, 0), 0);
            Check.due("two are left", x.log(w, 0), 2);
            Check.due("both are durable", x.log(w, 1), 2);
            Check.due("of epoch 2: RELEASED", x.transaction(4 + w, 0), 3);
            Check.due("of epoch 3: LOST", x.transaction(7 + w, 0), 5);
        }
        Check.due("the store's epoch", x.epoch(0), 3);
    }

    private static void durableInItsLogButLost() {
        EpochLeaves x = Check.withProcedures();
        Check.commit(x, 0, 1, 9, 1);
        x.advance();
        x.flush(0);
        Check.due("durable, with a mark", x.log(0, 1) + x.log(0, 2), 2);
        Check.due("crash", x.crash(), 0);
        Check.due("lost", x.transaction(1, 0), 5);
        Check.due("taken out", x.log(0, 0) + x.log(0, 1), 0);
    }

    private static void everyStateIsLost() {
        EpochLeaves x = Made.busy();
        int[] running = {x.worker(0, 1), x.worker(1, 1), x.worker(2, 1), x.worker(3, 1)};
        Check.due("crash", x.crash(), 1);
        for (int w = 0; w < 4; w++) {
            Check.due("lost: " + running[w], x.transaction(running[w], 0), 5);
            Check.due("idle", x.worker(w, 0), 0);
            Check.due("it can start", x.start(w, 1, w, w), 14 + w);
        }
        for (int key = 5; key < 8; key++) {
            Check.due("what they added is gone: " + key, x.entry(key, 0), 0);
        }
    }

    private static void noLeafIsLeft() {
        EpochLeaves x = Check.withProcedures();
        for (int key = 0; key < 32; key++) {
            Check.commit(x, 0, 1, key, 1);
        }
        Check.due("many leaves", x.leaf(10, 0), 11);
        x.crash();
        int[] want = {1, 0, 0, -1};
        for (int what = 0; what < 4; what++) {
            Check.due("leaf(0, " + what + ")", x.leaf(0, what), want[what]);
            Check.due("leaf(1, " + what + ")", x.leaf(1, what), EpochLeaves.BAD);
        }
        for (int key = 0; key < 32; key++) {
            for (int what = 0; what < 4; what++) {
                Check.due("entry(" + key + ", " + what + ")", x.entry(key, what), 0);
            }
        }
    }

    private static EpochLeaves crashedWith(int... keys) {
        EpochLeaves x = Check.withProcedures();
        for (int key : keys) {
            Check.commit(x, key % 4, 1, key, 1);
        }
        x.advance();
        Check.flushAll(x);
        Check.due("crash", x.crash(), 1);
        return x;
    }

    private static void row(EpochLeaves x, int place, int name, int version, int many, int least) {
        int[] want = {name, version, many, least};
        for (int what = 0; what < 4; what++) {
            Check.due("leaf(" + place + ", " + what + ")", x.leaf(place, what), want[what]);
        }
    }

    private static void fourAndFiveRecords() {
        EpochLeaves four = crashedWith(20, 15, 10, 5);
        row(four, 0, 1, 4, 4, 5);
        Check.due("no second leaf", four.leaf(1, 0), EpochLeaves.BAD);
        EpochLeaves five = crashedWith(20, 15, 10, 5, 0);
        row(five, 0, 1, 6, 3, 0);
        row(five, 1, 2, 0, 2, 15);
        Check.due("no third leaf", five.leaf(2, 0), EpochLeaves.BAD);
    }

    private static void leavesAreByKeysNotByAge() {
        EpochLeaves x = crashedWith(31, 30, 29, 28, 27, 26, 25, 0);
        row(x, 0, 1, 6, 3, 0);
        row(x, 1, 2, 4, 3, 27);
        row(x, 2, 3, 0, 2, 30);
        Check.due("no fourth leaf", x.leaf(3, 0), EpochLeaves.BAD);
    }

    private static void absentRecordsAreNotMadeAgain() {
        EpochLeaves x = Check.withProcedures();
        for (int key = 0; key < 6; key++) {
            Check.commit(x, 0, 1, key, 1);
        }
        Check.commit(x, 1, 3, 0, 0);
        Check.commit(x, 1, 3, 31, 0);
        x.advance();
        Check.flushAll(x);
        x.crash();
        Check.due("dropped", x.entry(0, 0), 0);
        Check.due("never put", x.entry(31, 0), 0);
        row(x, 0, 1, 6, 3, 1);
        row(x, 1, 2, 0, 2, 4);
        Check.due("the log keeps them", x.log(1, 0), 2);
    }

    private static void theGreatestStampOfAllLogs() {
        for (int last = 0; last < 4; last++) {
            EpochLeaves x = Check.withProcedures();
            for (int i = 1; i <= 4; i++) {
                Check.commit(x, (last + i) % 4, 1, 9, i * 100);
            }
            x.advance();
            Check.flushAll(x);
            x.crash();
            Check.due("the value of worker " + last, x.entry(9, 1), 400);
            Check.due("its stamp", x.entry(9, 2), 1027);
        }
    }

    private static void theGreatestThatIsNotLost() {
        EpochLeaves x = Check.withProcedures();
        Check.commit(x, 0, 1, 9, 100);
        x.advance();
        Check.flushAll(x);
        Check.commit(x, 0, 1, 9, 200);
        Check.commit(x, 1, 3, 9, 0);
        Check.due("dropped", x.entry(9, 0), 1);
        x.crash();
        Check.due("the value is back", x.entry(9, 1), 100);
        Check.due("with its stamp", x.entry(9, 2), 1024);
        Check.due("free", x.entry(9, 3), 0);
    }

    private static void valuesOfEverySize() {
        int[] values = {Integer.MIN_VALUE, -1, 0, 1, Integer.MAX_VALUE};
        EpochLeaves x = Check.withProcedures();
        for (int i = 0; i < 5; i++) {
            Check.commit(x, 0, 1, i == 4 ? 31 : i, values[i]);
        }
        x.advance();
        Check.flushAll(x);
        x.crash();
        for (int i = 0; i < 5; i++) {
            int key = i == 4 ? 31 : i;
            Check.due("present: " + key, x.entry(key, 0), 2);
            Check.due("its value", x.entry(key, 1), values[i]);
            Check.due("its stamp", x.entry(key, 2), 1024 + i);
        }
    }

    private static void theNextNameBehindACrash() {
        EpochLeaves x = Check.withProcedures();
        for (int key = 0; key < 11; key++) {
            Check.commit(x, 0, 1, key, 1);
        }
        Check.due("three leaves and more", x.leaf(2, 0), 3);
        x.crash();
        for (int key = 0; key < 5; key++) {
            Check.commit(x, 0, 1, key, 1);
        }
        Check.due("the first", x.leaf(0, 0), 1);
        Check.due("the next one made", x.leaf(1, 0), 2);
    }

    private static void marksAndEpochs() {
        EpochLeaves x = new EpochLeaves();
        for (int w = 3; w >= 0; w--) {
            x.advance();
            x.flush(w);
        }
        for (int w = 0; w < 4; w++) {
            Check.due("mark of " + w, x.log(w, 2), 4 - w);
        }
        Check.due("crash", x.crash(), 1);
        for (int w = 0; w < 4; w++) {
            Check.due("mark of " + w + " then", x.log(w, 2), 1);
        }
        Check.due("epoch(0)", x.epoch(0), 2);
        Check.due("epoch(1)", x.epoch(1), 1);
    }

    private static void twoCrashes() {
        EpochLeaves x = withThreeEpochs();
        Check.due("crash", x.crash(), 2);
        Check.due("crash again", x.crash(), 2);
        for (int w = 0; w < 3; w++) {
            Check.due("two are left", x.log(w, 0), 2);
            Check.due("a value", x.entry(10 * w + 2, 1), 2);
        }
        Check.due("epoch(0)", x.epoch(0), 3);
        int t = Check.commit(x, 0, 1, 2, 22);
        Check.due("a new stamp", x.transaction(t, 1), 3072);
        Check.due("crash behind a commit", x.crash(), 2);
        Check.due("the value before", x.entry(2, 1), 2);
    }

    private static void whatStays() {
        EpochLeaves x = withThreeEpochs();
        x.start(3, 1, 32, 0);
        x.step(3);
        x.crash();
        Check.due("a result", x.result(1), 1);
        Check.due("a stamp", x.transaction(1, 1), 1024);
        Check.due("an aborted one", x.transaction(10, 0), 4);
        Check.due("the next number", x.start(0, 0, 1, 1), 11);
        int[] places = {4, 2, 2, 2};
        for (int p = 0; p < 4; p++) {
            Check.due("procedure " + p, x.code(p, Check.FAIL, 0, 0, 0), places[p]);
        }
    }

    private static void aDropOutlivesTheCrash() {
        EpochLeaves x = Check.withProcedures();
        Check.commit(x, 0, 1, 9, 100);
        Check.commit(x, 1, 3, 9, 0);
        x.advance();
        Check.flushAll(x);
        x.crash();
        Check.due("no record", x.entry(9, 0), 0);
        Check.commit(x, 2, 1, 9, 300);
        x.crash();
        Check.due("the put is lost, the drop counts", x.entry(9, 0), 0);
        Check.commit(x, 2, 1, 9, 400);
        x.advance();
        Check.flushAll(x);
        x.crash();
        Check.due("the put has the greatest stamp", x.entry(9, 1), 400);
    }
}
