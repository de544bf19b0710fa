/** The example of README.md, call by call: it answers what its comments say. */
final class ReadmeTest {
    public static void main(String[] args) {
        EpochLeaves store = new EpochLeaves();
        Check.due("code of GET", store.code(0, 6, 2, 0, 0), 0);
        Check.due("code of ADD", store.code(0, 1, 2, 2, 1), 1);
        Check.due("code of PUT", store.code(0, 7, 0, 2, 0), 2);
        Check.due("code of GIVE", store.code(0, 10, 2, 0, 0), 3);
        int t = store.start(0, 0, 5, 10);
        Check.due("run(0, 100)", store.run(0, 100), 2);
        Check.due("entry(5, 1)", store.entry(5, 1), 10);
        Check.due("result before the flush", store.result(t), 0);
        Check.due("advance()", store.advance(), 2);
        for (int w = 0; w < 4; w++) {
            Check.due("flush(" + w + ")", store.flush(w), w == 3 ? 1 : 0);
        }
        Check.due("result behind the flush", store.result(t), 10);
        Check.due("crash()", store.crash(), 1);
        Check.due("entry(5, 1) behind the crash", store.entry(5, 1), 10);
        Check.end();
    }
}
