/** Promise 2, its edges: for each instruction the numbers just inside and just outside of what is said. */
final class P02CodeBoundsTest {
    public static void main(String[] args) {
        procedures();
        ops();
        setTakesMinus1000To1000();
        reckoningTakesThreeRegisters();
        zeroTakesPlaces0To15();
        getTakesNoRegister7();
        putTakesTwoRegisters();
        dropTakesOneRegister();
        sumTakesNoRegister7();
        giveTakesOneRegister();
        failTakesNothing();
        the17thIsRefused();
        aFullOneBesideOthers();
        Check.end();
    }

    private static void takes(int op, int a, int b, int c) {
        EpochLeaves x = new EpochLeaves();
        String call = "code(1, " + op + ", " + a + ", " + b + ", " + c + ")";
        Check.due(call, x.code(1, op, a, b, c), 0);
        Check.due(call + " again", x.code(1, op, a, b, c), 1);
    }

    private static void refuses(int p, int op, int a, int b, int c) {
        String call = "code(" + p + ", " + op + ", " + a + ", " + b + ", " + c + ")";
        Twin.refusedAnywhere(call, x -> x.code(p, op, a, b, c), EpochLeaves.BAD);
    }

    private static void refuses(int op, int a, int b, int c) {
        refuses(1, op, a, b, c);
    }

    private static void procedures() {
        EpochLeaves x = new EpochLeaves();
        Check.due("the first procedure", x.code(0, Check.SET, 0, 0, 0), 0);
        Check.due("the last procedure", x.code(3, Check.SET, 0, 0, 0), 0);
        for (int p : new int[] {Integer.MIN_VALUE, -1, 4, Integer.MAX_VALUE}) {
            refuses(p, Check.SET, 0, 0, 0);
        }
    }

    private static void ops() {
        takes(0, 0, 0, 0);
        takes(11, 0, 0, 0);
        for (int op : new int[] {Integer.MIN_VALUE, -1, 12, Integer.MAX_VALUE}) {
            refuses(op, 0, 0, 0);
        }
    }

    private static void setTakesMinus1000To1000() {
        takes(Check.SET, 0, -1000, 0);
        takes(Check.SET, 7, 1000, 0);
        refuses(Check.SET, 0, -1001, 0);
        refuses(Check.SET, 0, 1001, 0);
        refuses(Check.SET, -1, 0, 0);
        refuses(Check.SET, 8, 0, 0);
        refuses(Check.SET, 0, 0, -1);
        refuses(Check.SET, 0, 0, 1);
    }

    private static void reckoningTakesThreeRegisters() {
        for (int op = Check.ADD; op <= Check.LESS; op++) {
            takes(op, 0, 0, 0);
            takes(op, 7, 7, 7);
            refuses(op, -1, 0, 0);
            refuses(op, 8, 0, 0);
            refuses(op, 0, -1, 0);
            refuses(op, 0, 8, 0);
            refuses(op, 0, 0, -1);
            refuses(op, 0, 0, 8);
        }
    }

    private static void zeroTakesPlaces0To15() {
        takes(Check.ZERO, 0, 0, 0);
        takes(Check.ZERO, 7, 15, 0);
        refuses(Check.ZERO, 0, -1, 0);
        refuses(Check.ZERO, 0, 16, 0);
        refuses(Check.ZERO, -1, 0, 0);
        refuses(Check.ZERO, 8, 0, 0);
        refuses(Check.ZERO, 0, 0, -1);
        refuses(Check.ZERO, 0, 0, 1);
    }

    private static void getTakesNoRegister7() {
        takes(Check.GET, 0, 0, 0);
        takes(Check.GET, 6, 7, 0);
        refuses(Check.GET, 7, 0, 0);
        refuses(Check.GET, 8, 0, 0);
        refuses(Check.GET, -1, 0, 0);
        refuses(Check.GET, 0, -1, 0);
        refuses(Check.GET, 0, 8, 0);
        refuses(Check.GET, 0, 0, -1);
        refuses(Check.GET, 0, 0, 1);
    }

    private static void putTakesTwoRegisters() {
        takes(Check.PUT, 0, 0, 0);
        takes(Check.PUT, 7, 7, 0);
        refuses(Check.PUT, -1, 0, 0);
        refuses(Check.PUT, 8, 0, 0);
        refuses(Check.PUT, 0, -1, 0);
        refuses(Check.PUT, 0, 8, 0);
        refuses(Check.PUT, 0, 0, -1);
        refuses(Check.PUT, 0, 0, 1);
    }

    private static void dropTakesOneRegister() {
        takes(Check.DROP, 0, 0, 0);
        takes(Check.DROP, 7, 0, 0);
        refuses(Check.DROP, -1, 0, 0);
        refuses(Check.DROP, 8, 0, 0);
        refuses(Check.DROP, 0, -1, 0);
        refuses(Check.DROP, 0, 1, 0);
        refuses(Check.DROP, 0, 0, -1);
        refuses(Check.DROP, 0, 0, 1);
    }

    private static void sumTakesNoRegister7() {
        takes(Check.SUM, 0, 0, 0);
        takes(Check.SUM, 6, 7, 7);
        refuses(Check.SUM, 7, 0, 0);
        refuses(Check.SUM, 8, 0, 0);
        refuses(Check.SUM, -1, 0, 0);
        refuses(Check.SUM, 0, -1, 0);
        refuses(Check.SUM, 0, 8, 0);
        refuses(Check.SUM, 0, 0, -1);
        refuses(Check.SUM, 0, 0, 8);
    }

    private static void giveTakesOneRegister() {
        takes(Check.GIVE, 0, 0, 0);
        takes(Check.GIVE, 7, 0, 0);
        refuses(Check.GIVE, -1, 0, 0);
        refuses(Check.GIVE, 8, 0, 0);
        refuses(Check.GIVE, 0, -1, 0);
        refuses(Check.GIVE, 0, 1, 0);
        refuses(Check.GIVE, 0, 0, -1);
        refuses(Check.GIVE, 0, 0, 1);
    }

    private static void failTakesNothing() {
        takes(Check.FAIL, 0, 0, 0);
        refuses(Check.FAIL, -1, 0, 0);
        refuses(Check.FAIL, 1, 0, 0);
        refuses(Check.FAIL, 0, -1, 0);
        refuses(Check.FAIL, 0, 1, 0);
        refuses(Check.FAIL, 0, 0, -1);
        refuses(Check.FAIL, 0, 0, 1);
    }

    private static void the17thIsRefused() {
        EpochLeaves x = new EpochLeaves();
        for (int place = 0; place < 16; place++) {
            Check.due("code number " + (place + 1), x.code(2, Check.SET, 2, place, 0), place);
        }
        Check.due("code number 17", x.code(2, Check.SET, 2, 16, 0), EpochLeaves.BAD);
        for (int op = 0; op < 12; op++) {
            int each = op;
            Twin.refused("code number 17 of op " + op, Made::withSixteen, y -> y.code(2, each, 0, 0, 0),
                    EpochLeaves.BAD);
        }
        Twin.refused("code number 17 with wrong numbers", Made::withSixteen, y -> y.code(2, 12, 8, 8, 8),
                EpochLeaves.BAD);
    }

    private static void aFullOneBesideOthers() {
        EpochLeaves x = Made.withSixteen();
        for (int p : new int[] {0, 1, 3}) {
            Check.due("code of procedure " + p + " beside the full one", x.code(p, Check.SET, 0, 0, 0), 0);
        }
        x.clear(2);
        Check.due("code of the cleared one", x.code(2, Check.SET, 0, 0, 0), 0);
    }
}
