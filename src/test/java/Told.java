/** Every question about the state that the face allows, as rows: which call, and its numbers. */
final class Told {
    private static final int ENTRY = 0;
    private static final int LEAF = 1;
    private static final int WORKER = 2;
    private static final int REGISTER = 3;
    private static final int LOG = 4;
    private static final int EPOCH = 5;
    private static final int TRANSACTION = 6;
    private static final int RESULT = 7;
    private static final String[] NAMES = {
        "entry", "leaf", "worker", "register", "log", "epoch", "transaction", "result"};
    // How many first numbers and how many second numbers each call takes; transactions begin at 1.
    private static final int[] FIRSTS = {32, 16, 4, 4, 4, 2, 100, 100};
    private static final int[] SECONDS = {4, 4, 7, 8, 3, 1, 2, 1};

    static final int[][] QUESTIONS = allQuestions();

    private Told() {
    }

    private static int[][] allQuestions() {
        int many = 0;
        for (int call = ENTRY; call <= RESULT; call++) {
            many += FIRSTS[call] * SECONDS[call];
        }
        int[][] all = new int[many][];
        int at = 0;
        for (int call = ENTRY; call <= RESULT; call++) {
            int least = call >= TRANSACTION ? 1 : 0;
            for (int first = 0; first < FIRSTS[call]; first++) {
                for (int second = 0; second < SECONDS[call]; second++) {
                    all[at++] = new int[] {call, least + first, second};
                }
            }
        }
        return all;
    }

    static String name(int[] question) {
        return NAMES[question[0]] + "(" + question[1] + ", " + question[2] + ")";
    }

    static int ask(EpochLeaves x, int[] question) {
        int first = question[1];
        int second = question[2];
        switch (question[0]) {
            case ENTRY: return x.entry(first, second);
            case LEAF: return x.leaf(first, second);
            case WORKER: return x.worker(first, second);
            case REGISTER: return x.register(first, second);
            case LOG: return x.log(first, second);
            case EPOCH: return x.epoch(first);
            case TRANSACTION: return x.transaction(first, second);
            default: return x.result(first);
        }
    }
}
