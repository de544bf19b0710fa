/** Promise 3, its edges: which procedures there are, and up to which step a worker keeps its own from being cleared. */
final class P03ClearBoundsTest {
    public static void main(String[] args) {
        noSuchProcedure();
        firstAndLastProcedure();
        refusedWhileItRuns();
        refusedBehindItsLastInstruction();
        refusedWhileItIsBlocked();
        clearedFromLockingOn();
        clearedBehindAnAbort();
        sixteenFitAgain();
        anEmptyOneIsCleared();
        Check.end();
    }

    private static int asked(EpochLeaves x, int p) {
        return x.clear(p) ? 1 : 0;
    }

    private static void noSuchProcedure() {
        for (int p : new int[] {Integer.MIN_VALUE, -1, 4, Integer.MAX_VALUE}) {
            Twin.refusedAnywhere("clear(" + p + ")", x -> asked(x, p), 0);
        }
    }

    private static void firstAndLastProcedure() {
        EpochLeaves x = Check.withProcedures();
        Check.due("clear(0)", x.clear(0), true);
        Check.due("clear(3)", x.clear(3), true);
        int[] places = {0, 2, 2, 0};
        for (int p = 0; p < 4; p++) {
            Check.due("the next place in " + p, x.code(p, Check.FAIL, 0, 0, 0), places[p]);
        }
    }

    private static EpochLeaves thirdRuns() {
        EpochLeaves x = Check.withProcedures();
        x.start(3, 3, 9, 0);
        return x;
    }

    private static void refusedWhileItRuns() {
        Twin.refused("clear(3) while worker 3 runs it", P03ClearBoundsTest::thirdRuns, x -> asked(x, 3), 0);
        Twin.refused("clear(0) while worker 0 runs it", Made::busy, x -> asked(x, 0), 0);
        Check.due("clear(2) beside it", thirdRuns().clear(2), true);
    }

    private static EpochLeaves behindItsLast() {
        EpochLeaves x = new EpochLeaves();
        x.code(1, Check.PUT, 0, 1, 0);
        x.start(0, 1, 5, 6);
        x.step(0);
        return x;
    }

    private static void refusedBehindItsLastInstruction() {
        Twin.refused("clear(1) behind its last instruction", P03ClearBoundsTest::behindItsLast, x -> asked(x, 1), 0);
        EpochLeaves x = behindItsLast();
        x.step(0);
        Check.due("clear(1) when it has given", x.clear(1), true);
    }

    private static EpochLeaves blockedOne() {
        EpochLeaves x = Check.withProcedures();
        Made.atLocking(x, 0, 9);
        x.start(1, 2, 9, 9);
        Check.due("it is blocked", x.step(1), 0);
        return x;
    }

    private static void refusedWhileItIsBlocked() {
        Twin.refused("clear(2) while its run is blocked", P03ClearBoundsTest::blockedOne, x -> asked(x, 2), 0);
    }

    private static void clearedFromLockingOn() {
        for (int steps = 2; steps <= 7; steps++) {
            EpochLeaves x = Check.withProcedures();
            x.start(0, 1, 5, 6);
            x.run(0, 1);
            Check.due("clear(1) behind one step", x.clear(1), false);
            x.run(0, steps - 1);
            Check.due("clear(1) behind " + steps + " steps", x.clear(1), true);
            Check.due("the next place", x.code(1, Check.FAIL, 0, 0, 0), 0);
            Check.due("the run goes on", x.run(0, 100), steps == 7 ? EpochLeaves.BUSY : 2);
            Check.due("its write", x.entry(5, 1), 6);
        }
    }

    private static void clearedBehindAnAbort() {
        EpochLeaves x = Check.withProcedures();
        x.start(0, 1, 32, 6);
        Check.due("while it runs", x.clear(1), false);
        Check.due("it is aborted", x.step(0), 3);
        Check.due("then", x.clear(1), true);
    }

    private static void sixteenFitAgain() {
        EpochLeaves x = Made.withSixteen();
        Check.due("clear of a full one", x.clear(2), true);
        for (int place = 0; place < 16; place++) {
            Check.due("code number " + (place + 1), x.code(2, Check.SET, 3, place, 0), place);
        }
        Check.due("code number 17", x.code(2, Check.SET, 3, 0, 0), EpochLeaves.BAD);
        x.start(0, 2, 0, 0);
        x.run(0, 16);
        Check.due("the new instructions are done", x.register(0, 3), 15);
        Check.due("not the old ones", x.register(0, 2), 0);
    }

    private static void anEmptyOneIsCleared() {
        EpochLeaves x = new EpochLeaves();
        for (int p = 0; p < 4; p++) {
            Check.due("clear(" + p + ") of an empty one", x.clear(p), true);
            Check.due("clear(" + p + ") again", x.clear(p), true);
        }
    }
}
