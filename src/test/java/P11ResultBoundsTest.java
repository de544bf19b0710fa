/** Promise 11, its edges: 0 for every number that is none of a released transaction. */
final class P11ResultBoundsTest {
    public static void main(String[] args) {
        noneYet();
        besideTheFirstAndTheLast();
        the100th();
        zeroUntilReleased();
        Check.end();
    }

    private static void noneYet() {
        for (int t : new int[] {Integer.MIN_VALUE, -1, 0, 1, 100, 101, Integer.MAX_VALUE}) {
            Twin.refused("result(" + t + ")", EpochLeaves::new, x -> x.result(t), 0);
        }
    }

    private static void besideTheFirstAndTheLast() {
        EpochLeaves x = Made.busy();
        Check.due("result(1)", x.result(1), 1);
        Check.due("result(8)", x.result(8), 29);
        for (int t : new int[] {0, 9, 10, 13, 14}) {
            Twin.refused("result(" + t + ")", Made::busy, y -> y.result(t), 0);
        }
    }

    private static void the100th() {
        EpochLeaves x = new EpochLeaves();
        Check.codePut(x, 0);
        for (int t = 1; t <= 100; t++) {
            x.start(0, 0, 3, 1000 + t);
            x.run(0, 100);
        }
        x.advance();
        Check.due("all are released", Check.flushAll(x), 100);
        Check.due("result(0)", x.result(0), 0);
        Check.due("result(1)", x.result(1), 1001);
        Check.due("result(100)", x.result(100), 1100);
        Check.due("result(101)", x.result(101), 0);
    }

    private static void zeroUntilReleased() {
        EpochLeaves x = Check.withProcedures();
        x.start(0, 1, 9, 55);
        for (int step = 1; step <= 7; step++) {
            x.step(0);
            Check.due("behind step " + step, x.result(1), 0);
        }
        x.advance();
        for (int w = 0; w < 4; w++) {
            Check.due("before flush(" + w + ")", x.result(1), 0);
            x.flush(w);
        }
        Check.due("released", x.result(1), 55);
        int aborted = x.start(0, 1, 40, 66);
        x.run(0, 100);
        int lost = Check.commit(x, 1, 1, 9, 77);
        x.crash();
        Check.due("ABORTED", x.result(aborted), 0);
        Check.due("LOST", x.result(lost), 0);
        Check.due("still RELEASED", x.result(1), 55);
    }
}
