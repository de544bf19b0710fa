/** Promise 15: the registers of the present run. */
final class P15RegisterTest {
    public static void main(String[] args) {
        EpochLeaves x = new EpochLeaves();
        for (int r = 0; r < 8; r++) {
            x.code(0, Check.SET, r, 100 + r, 0);
        }
        x.code(0, Check.GIVE, 0, 0, 0);
        x.start(0, 0, 0, 0);
        x.start(1, 0, -1, -2);
        for (int r = 0; r < 8; r++) {
            x.step(0);
            Check.due("register(0, " + r + ")", x.register(0, r), 100 + r);
        }
        Check.due("of another worker", x.register(1, 0), -1);
        for (int state = 2; state < 5; state++) {
            x.step(0);
            Check.due("state", x.worker(0, 0), state);
            Check.due("r5 in state " + state, x.register(0, 5), 105);
        }
        for (int r : new int[] {Integer.MIN_VALUE, -1, 8, Integer.MAX_VALUE}) {
            Check.due("register(0, " + r + ")", x.register(0, r), 0);
        }
        for (int w : new int[] {Integer.MIN_VALUE, -1, 4, Integer.MAX_VALUE}) {
            Check.due("register(" + w + ", 0)", x.register(w, 0), 0);
        }
        Check.due("commit", x.step(0), 2);
        Check.due("idle", x.register(0, 5), 0);
        x.crash();
        Check.due("behind a crash", x.register(1, 0), 0);
        Check.end();
    }
}
