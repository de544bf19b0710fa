/** Promise 7, its edges: a worker with the store's epoch, and one with a lower epoch. */
final class P07AdvanceBoundsTest {
    public static void main(String[] args) {
        growsByOne();
        runningAndLockingNeverHold();
        theSameEpochDoesNotHold();
        aLowerEpochHolds();
        everyWorkerHolds();
        oneOfTwoHolds();
        goesOnWhenItHasEnded();
        Check.end();
    }

    private static void growsByOne() {
        EpochLeaves x = new EpochLeaves();
        for (int epoch = 2; epoch <= 20; epoch++) {
            Check.due("advance", x.advance(), epoch);
            Check.due("epoch(0)", x.epoch(0), epoch);
            Check.due("epoch(1)", x.epoch(1), 0);
        }
    }

    private static void runningAndLockingNeverHold() {
        EpochLeaves x = Check.withProcedures();
        x.start(0, 0, 3, 4);
        Made.atLocking(x, 1, 9);
        for (int epoch = 2; epoch <= 5; epoch++) {
            Check.due("advance", x.advance(), epoch);
        }
    }

    private static void theSameEpochDoesNotHold() {
        EpochLeaves x = Check.withProcedures();
        x.advance();
        Made.atFence(x, 0, 9);
        Made.atInstalling(x, 1, 10);
        Check.due("both have this epoch", x.advance(), 3);
    }

    private static EpochLeaves fencedBelow(int w) {
        EpochLeaves x = Check.withProcedures();
        Made.atFence(x, w, 9);
        Check.due("the same epoch", x.advance(), 2);
        return x;
    }

    private static EpochLeaves installingBelow(int w) {
        EpochLeaves x = Check.withProcedures();
        Made.atInstalling(x, w, 9);
        Check.due("the same epoch", x.advance(), 2);
        return x;
    }

    private static void aLowerEpochHolds() {
        Twin.refused("advance beside a FENCED one below", () -> fencedBelow(0), x -> x.advance(), EpochLeaves.BUSY);
        Twin.refused("advance beside an INSTALLING one below", () -> installingBelow(0), x -> x.advance(),
                EpochLeaves.BUSY);
    }

    private static void everyWorkerHolds() {
        for (int w = 1; w < 4; w++) {
            int each = w;
            Twin.refused("advance beside FENCED worker " + w, () -> fencedBelow(each), x -> x.advance(),
                    EpochLeaves.BUSY);
            Twin.refused("advance beside INSTALLING worker " + w, () -> installingBelow(each), x -> x.advance(),
                    EpochLeaves.BUSY);
        }
    }

    private static void oneOfTwoHolds() {
        EpochLeaves x = fencedBelow(2);
        Made.atFence(x, 0, 10);
        Check.due("their epochs", x.worker(2, 3) * 10 + x.worker(0, 3), 12);
        Check.due("one is below", x.advance(), EpochLeaves.BUSY);
        Check.due("it ends", x.run(2, 100), 2);
        Check.due("the other is not", x.advance(), 3);
        Check.due("now it is", x.advance(), EpochLeaves.BUSY);
    }

    private static void goesOnWhenItHasEnded() {
        EpochLeaves x = installingBelow(0);
        Check.due("installed, not committed", x.step(0), 1);
        Check.due("it still holds", x.advance(), EpochLeaves.BUSY);
        Check.due("committed", x.step(0), 2);
        Check.due("it holds no more", x.advance(), 3);
        EpochLeaves y = Check.withProcedures();
        y.start(0, 0, 9, 1);
        y.run(0, 6);
        Check.commit(y, 1, 1, 20, 1);
        y.advance();
        Check.due("FENCED below", y.advance(), EpochLeaves.BUSY);
        Check.due("aborted", y.step(0), 3);
        Check.due("it holds no more", y.advance(), 3);
        EpochLeaves z = fencedBelow(0);
        z.crash();
        Check.due("behind a crash", z.advance(), 2);
    }
}
