import java.util.ArrayList;

/** A store of records in memory on which four workers run stored procedures by small steps. */
public final class EpochLeaves {
    public static final int BAD = -1;
    public static final int BUSY = -2;
    public static final int FULL = -3;

    private static final int KEYS = 32;
    private static final int WORKERS = 4;
    private static final int PROCEDURES = 4;
    private static final int REGISTERS = 8;
    private static final int MOST_TRANSACTIONS = 100;
    private static final int MOST_STEPS = 100;
    private static final int STAMPS_OF_AN_EPOCH = 1024;

    // What a worker is.
    private static final int IDLE = 0;
    private static final int RUNNING = 1;
    private static final int LOCKING = 2;
    private static final int FENCED = 3;
    private static final int INSTALLING = 4;

    // What a step answers.
    private static final int STEP_BLOCKED = 0;
    private static final int STEP_DONE = 1;
    private static final int STEP_COMMITTED = 2;
    private static final int STEP_ABORTED = 3;

    // How it stands with a transaction.
    private static final int RUNS = 1;
    private static final int COMMITTED = 2;
    private static final int RELEASED = 3;
    private static final int ABORTED = 4;
    private static final int LOST = 5;

    private final Procedure[] procedures = new Procedure[PROCEDURES];
    private final Worker[] workers = new Worker[WORKERS];
    private final Log[] logs = new Log[WORKERS];
    private final ArrayList<Transaction> transactions = new ArrayList<>();
    private final Store store = new Store();
    private int storeEpoch = 1;

    public EpochLeaves() {
        for (int p = 0; p < PROCEDURES; p++) {
            procedures[p] = new Procedure();
        }
        for (int w = 0; w < WORKERS; w++) {
            workers[w] = new Worker(w + 1);
            logs[w] = new Log();
        }
    }

    public int code(int p, int op, int a, int b, int c) {
        if (!isProcedure(p) || procedures[p].isFull() || !Procedure.allows(op, a, b, c)) {
            return BAD;
        }
        return procedures[p].append(op, a, b, c);
    }

    public boolean clear(int p) {
        if (!isProcedure(p) || isBeingRun(p)) {
            return false;
        }
        procedures[p].size = 0;
        return true;
    }

    public int start(int w, int p, int x, int y) {
        if (!isWorker(w) || !isProcedure(p)) {
            return BAD;
        }
        if (workers[w].state != IDLE) {
            return BUSY;
        }
        if (transactions.size() >= MOST_TRANSACTIONS) {
            return FULL;
        }
        Transaction begun = new Transaction(transactions.size() + 1);
        transactions.add(begun);
        workers[w].begin(begun, p, x, y);
        return begun.number;
    }

    public int step(int w) {
        if (!isWorker(w)) {
            return BAD;
        }
        return workers[w].state == IDLE ? BUSY : moveWorker(w);
    }

    public int run(int w, int n) {
        if (!isWorker(w) || n < 1 || n > MOST_STEPS) {
            return BAD;
        }
        if (workers[w].state == IDLE) {
            return BUSY;
        }
        int answer = STEP_DONE;
        for (int i = 0; i < n && answer == STEP_DONE; i++) {
            answer = moveWorker(w);
        }
        return answer;
    }

    public int advance() {
        for (int w = 0; w < WORKERS; w++) {
            if (workers[w].hasEpoch() && workers[w].ownEpoch < storeEpoch) {
                return BUSY;
            }
        }
        storeEpoch++;
        return storeEpoch;
    }

    public int flush(int w) {
        if (!isWorker(w)) {
            return BAD;
        }
        // A worker behind its fence will still log a transaction of its own epoch.
        int openEpoch = workers[w].hasEpoch() ? workers[w].ownEpoch : storeEpoch;
        logs[w].makeDurable(openEpoch - 1);
        return releaseAllDue();
    }

    public int crash() {
        int d = durableEpoch();
        for (int w = 0; w < WORKERS; w++) {
            logs[w].loseBehind(d);
            workers[w].loseRun();
        }
        store.makeEmpty();
        for (int key = 0; key < KEYS; key++) {
            recover(key);
        }
        storeEpoch = d + 1;
        return d;
    }

    public int transaction(int t, int what) {
        if (!isTransaction(t) || what < 0 || what > 1) {
            return BAD;
        }
        Transaction asked = transactions.get(t - 1);
        if (what == 0) {
            return asked.status;
        }
        return asked.status == COMMITTED || asked.status == RELEASED ? asked.stamp : 0;
    }

    public int result(int t) {
        if (!isTransaction(t) || transactions.get(t - 1).status != RELEASED) {
            return 0;
        }
        return transactions.get(t - 1).given;
    }

    public int entry(int key, int what) {
        if (!isKey(key)) {
            return BAD;
        }
        switch (what) {
            case 0: return store.beings[key];
            case 1: return store.values[key];
            case 2: return store.stamps[key];
            case 3: return store.locks[key];
            default: return BAD;
        }
    }

    public int leaf(int place, int what) {
        if (place < 0 || place >= store.leafCount) {
            return BAD;
        }
        Leaf asked = store.leafAt(place);
        switch (what) {
            case 0: return asked.name;
            case 1: return asked.version;
            case 2: return asked.count;
            case 3: return asked.count == 0 ? -1 : asked.keys[0];
            default: return BAD;
        }
    }

    public int worker(int w, int what) {
        if (!isWorker(w) || what < 0 || what > 6) {
            return BAD;
        }
        Worker asked = workers[w];
        if (asked.state == IDLE) {
            return 0;
        }
        switch (what) {
            case 0: return asked.state;
            case 1: return asked.work.number;
            case 2: return asked.state == RUNNING ? asked.next : 0;
            case 3: return asked.hasEpoch() ? asked.ownEpoch : 0;
            case 4: return asked.work.writeCount;
            case 5: return asked.readCount;
            default: return asked.nodeCount;
        }
    }

    public int register(int w, int r) {
        if (!isWorker(w) || r < 0 || r >= REGISTERS || workers[w].state == IDLE) {
            return 0;
        }
        return workers[w].registers[r];
    }

    public int log(int w, int what) {
        if (!isWorker(w)) {
            return BAD;
        }
        switch (what) {
            case 0: return logs[w].kept.size();
            case 1: return logs[w].durableCount;
            case 2: return logs[w].mark;
            default: return BAD;
        }
    }

    public int epoch(int what) {
        switch (what) {
            case 0: return storeEpoch;
            case 1: return durableEpoch();
            default: return BAD;
        }
    }

    private static boolean isKey(int key) {
        return key >= 0 && key < KEYS;
    }

    private static boolean isWorker(int w) {
        return w >= 0 && w < WORKERS;
    }

    private static boolean isProcedure(int p) {
        return p >= 0 && p < PROCEDURES;
    }

    private boolean isTransaction(int t) {
        return t >= 1 && t <= transactions.size();
    }

    private boolean isBeingRun(int p) {
        for (int w = 0; w < WORKERS; w++) {
            if (workers[w].state == RUNNING && workers[w].procedureNumber == p) {
                return true;
            }
        }
        return false;
    }

    private int moveWorker(int w) {
        Procedure procedure = procedures[workers[w].procedureNumber];
        int answer = workers[w].move(store, procedure, storeEpoch);
        if (answer == STEP_COMMITTED) {
            logs[w].kept.add(workers[w].work);
            releaseAllDue();
        }
        return answer;
    }

    private int durableEpoch() {
        int least = logs[0].mark;
        for (int w = 1; w < WORKERS; w++) {
            least = Math.min(least, logs[w].mark);
        }
        return least;
    }

    private int releaseAllDue() {
        int d = durableEpoch();
        int released = 0;
        for (int i = 0; i < transactions.size(); i++) {
            Transaction one = transactions.get(i);
            if (one.status == COMMITTED && one.epochOfStamp() <= d) {
                one.status = RELEASED;
                released++;
            }
        }
        return released;
    }

    private void recover(int key) {
        boolean found = false;
        boolean present = false;
        int value = 0;
        int stamp = 0;
        for (int w = 0; w < WORKERS; w++) {
            for (int i = 0; i < logs[w].kept.size(); i++) {
                Transaction one = logs[w].kept.get(i);
                if (one.writes(key) && (!found || one.stamp > stamp)) {
                    found = true;
                    present = one.puts(key);
                    value = one.values[key];
                    stamp = one.stamp;
                }
            }
        }
        if (present) {
            store.add(key);
            store.install(key, true, value, stamp);
        }
    }

    /** A row of instructions. */
    private static final class Procedure {
        static final int MOST = 16;

        static final int SET = 0;
        static final int ADD = 1;
        static final int SUB = 2;
        static final int MUL = 3;
        static final int LESS = 4;
        static final int ZERO = 5;
        static final int GET = 6;
        static final int PUT = 7;
        static final int DROP = 8;
        static final int SUM = 9;
        static final int GIVE = 10;
        static final int FAIL = 11;

        // The greatest a, b and c that each instruction takes; the least is 0 but for the b of SET.
        private static final int[] GREATEST_A = {7, 7, 7, 7, 7, 7, 6, 7, 7, 6, 7, 0};
        private static final int[] GREATEST_B = {1000, 7, 7, 7, 7, 15, 7, 7, 0, 7, 0, 0};
        private static final int[] GREATEST_C = {0, 7, 7, 7, 7, 0, 0, 0, 0, 7, 0, 0};
        private static final int LEAST_SET = -1000;

        final int[] ops = new int[MOST];
        final int[] as = new int[MOST];
        final int[] bs = new int[MOST];
        final int[] cs = new int[MOST];
        int size;

        static boolean allows(int op, int a, int b, int c) {
            if (op < SET || op > FAIL) {
                return false;
            }
            int leastB = op == SET ? LEAST_SET : 0;
            return a >= 0 && a <= GREATEST_A[op]
                    && b >= leastB && b <= GREATEST_B[op]
                    && c >= 0 && c <= GREATEST_C[op];
        }

        boolean isFull() {
            return size >= MOST;
        }

        int append(int op, int a, int b, int c) {
            int place = size;
            ops[place] = op;
            as[place] = a;
            bs[place] = b;
            cs[place] = c;
            size++;
            return place;
        }
    }

    /** A transaction with its writes, from its start for as long as the object lives. */
    private static final class Transaction {
        private static final int PUTS = 1;
        private static final int DROPS = 2;

        final int number;
        final int[] kinds = new int[KEYS];
        final int[] values = new int[KEYS];
        int writeCount;
        int status = RUNS;
        int given;
        int stamp;

        Transaction(int number) {
            this.number = number;
        }

        boolean writes(int key) {
            return kinds[key] != 0;
        }

        boolean puts(int key) {
            return kinds[key] == PUTS;
        }

        void keepPut(int key, int value) {
            keepWrite(key, PUTS, value);
        }

        void keepDrop(int key) {
            keepWrite(key, DROPS, 0);
        }

        private void keepWrite(int key, int kind, int value) {
            if (!writes(key)) {
                writeCount++;
            }
            kinds[key] = kind;
            values[key] = value;
        }

        int epochOfStamp() {
            return stamp / STAMPS_OF_AN_EPOCH;
        }
    }

    /** What a worker has committed, in its order; what is durable of it lies in front. */
    private static final class Log {
        final ArrayList<Transaction> kept = new ArrayList<>();
        int durableCount;
        int mark;

        void makeDurable(int newMark) {
            durableCount = kept.size();
            mark = Math.max(mark, newMark);
        }

        void loseBehind(int d) {
            for (int i = kept.size() - 1; i >= 0; i--) {
                if (kept.get(i).epochOfStamp() > d) {
                    kept.get(i).status = LOST;
                    kept.remove(i);
                    if (i < durableCount) {
                        durableCount--;
                    }
                }
            }
            mark = d;
        }
    }

    /** Some records that lie side by side, as their keys. */
    private static final class Leaf {
        static final int TOO_MANY = 5;
        static final int MOVED_BY_SPLIT = 2;

        final int name;
        final int[] keys = new int[TOO_MANY];
        int count;
        int version;

        Leaf(int name) {
            this.name = name;
        }

        void makeEmpty() {
            count = 0;
            version = 0;
        }

        void insert(int key) {
            int at = count;
            while (at > 0 && keys[at - 1] > key) {
                keys[at] = keys[at - 1];
                at--;
            }
            keys[at] = key;
            count++;
            version++;
        }

        void splitInto(Leaf behind) {
            int stay = count - MOVED_BY_SPLIT;
            for (int i = 0; i < MOVED_BY_SPLIT; i++) {
                behind.keys[i] = keys[stay + i];
            }
            behind.count = MOVED_BY_SPLIT;
            count = stay;
            version++;
        }
    }

    /** The records and the leaves in which they lie. */
    private static final class Store {
        // Of two leaves or more each has two records at least, as every leaf comes from a split.
        static final int MOST_LEAVES = KEYS / 2;
        static final int NONE = 0;
        static final int ABSENT = 1;
        static final int PRESENT = 2;

        final int[] beings = new int[KEYS];
        final int[] values = new int[KEYS];
        final int[] stamps = new int[KEYS];
        final int[] locks = new int[KEYS];
        final Leaf[] leaves = new Leaf[MOST_LEAVES];
        final int[] places = new int[MOST_LEAVES];
        int leafCount = 1;

        Store() {
            for (int i = 0; i < MOST_LEAVES; i++) {
                leaves[i] = new Leaf(i + 1);
            }
        }

        void makeEmpty() {
            for (int key = 0; key < KEYS; key++) {
                beings[key] = NONE;
                values[key] = 0;
                stamps[key] = 0;
                locks[key] = 0;
            }
            for (int i = 0; i < MOST_LEAVES; i++) {
                leaves[i].makeEmpty();
            }
            places[0] = 0;
            leafCount = 1;
        }

        boolean has(int key) {
            return beings[key] != NONE;
        }

        boolean isLockedByOther(int key, int sign) {
            return locks[key] != 0 && locks[key] != sign;
        }

        Leaf leafAt(int place) {
            return leaves[places[place]];
        }

        int placeOf(int key) {
            for (int place = leafCount - 1; place > 0; place--) {
                if (leaves[places[place]].keys[0] <= key) {
                    return place;
                }
            }
            return 0;
        }

        void add(int key) {
            int place = placeOf(key);
            Leaf grown = leafAt(place);
            grown.insert(key);
            beings[key] = ABSENT;
            if (grown.count >= Leaf.TOO_MANY && leafCount < MOST_LEAVES) {
                grown.splitInto(openLeafAt(place + 1));
            }
        }

        private Leaf openLeafAt(int place) {
            Leaf opened = leaves[leafCount];
            for (int i = leafCount; i > place; i--) {
                places[i] = places[i - 1];
            }
            places[place] = leafCount;
            leafCount++;
            return opened;
        }

        void install(int key, boolean present, int value, int stamp) {
            beings[key] = present ? PRESENT : ABSENT;
            values[key] = present ? value : 0;
            stamps[key] = stamp;
            locks[key] = 0;
        }

        void unlockAllOf(int sign) {
            for (int key = 0; key < KEYS; key++) {
                if (locks[key] == sign) {
                    locks[key] = 0;
                }
            }
        }
    }

    /** A worker with its present run, if it has one. */
    private static final class Worker {
        static final int MOST_INSTRUCTIONS = 60;
        static final int FOUND = 7;
        static final int UNSEEN = -1;

        // What a lock of this worker says: its number plus 1.
        final int sign;
        final int[] registers = new int[REGISTERS];
        // By key and by leaf's name less 1, or UNSEEN.
        final int[] readStamps = new int[KEYS];
        final int[] nodeVersions = new int[Store.MOST_LEAVES];
        int procedureNumber;
        Transaction work = new Transaction(0);
        int state = IDLE;
        int next;
        int instructionsDone;
        int readCount;
        int nodeCount;
        int ownEpoch;
        int latestStamp;

        Worker(int sign) {
            this.sign = sign;
        }

        void begin(Transaction begun, int p, int x, int y) {
            work = begun;
            procedureNumber = p;
            for (int r = 0; r < REGISTERS; r++) {
                registers[r] = 0;
            }
            registers[0] = x;
            registers[1] = y;
            for (int key = 0; key < KEYS; key++) {
                readStamps[key] = UNSEEN;
            }
            for (int i = 0; i < Store.MOST_LEAVES; i++) {
                nodeVersions[i] = UNSEEN;
            }
            readCount = 0;
            nodeCount = 0;
            next = 0;
            instructionsDone = 0;
            state = RUNNING;
        }

        boolean hasEpoch() {
            return state == FENCED || state == INSTALLING;
        }

        void loseRun() {
            if (state != IDLE) {
                work.status = LOST;
                state = IDLE;
            }
            latestStamp = 0;
        }

        int move(Store store, Procedure procedure, int storeEpoch) {
            switch (state) {
                case RUNNING: return goOn(store, procedure);
                case LOCKING: return lockOne(store, storeEpoch);
                case FENCED: return lookAgain(store);
                case INSTALLING: return installOne(store);
                default: return BUSY;
            }
        }

        private int goOn(Store store, Procedure procedure) {
            if (next >= procedure.size) {
                giveAndLock(0);
                return STEP_DONE;
            }
            if (instructionsDone >= MOST_INSTRUCTIONS) {
                return abort(store);
            }
            int op = procedure.ops[next];
            int a = procedure.as[next];
            int b = procedure.bs[next];
            int c = procedure.cs[next];
            int following = next + 1;
            int answer = STEP_DONE;
            switch (op) {
                case Procedure.ZERO:
                    following = registers[a] == 0 ? b : following;
                    break;
                case Procedure.GET:
                    answer = doGet(store, a, registers[b]);
                    break;
                case Procedure.PUT:
                    answer = doPut(store, registers[a], registers[b]);
                    break;
                case Procedure.DROP:
                    answer = doDrop(store, registers[a]);
                    break;
                case Procedure.SUM:
                    answer = doSum(store, a, Math.max(registers[b], 0), Math.min(registers[c], KEYS - 1));
                    break;
                case Procedure.GIVE:
                    giveAndLock(registers[a]);
                    break;
                case Procedure.FAIL:
                    answer = abort(store);
                    break;
                default:
                    registers[a] = reckon(op, b, c);
            }
            if (answer == STEP_DONE) {
                next = following;
                instructionsDone++;
            }
            return answer;
        }

        private int reckon(int op, int b, int c) {
            switch (op) {
                case Procedure.ADD: return registers[b] + registers[c];
                case Procedure.SUB: return registers[b] - registers[c];
                case Procedure.MUL: return registers[b] * registers[c];
                case Procedure.LESS: return registers[b] < registers[c] ? 1 : 0;
                default: return b;
            }
        }

        private int doGet(Store store, int a, int key) {
            if (!isKey(key)) {
                return abort(store);
            }
            if (mustWaitFor(store, key)) {
                return STEP_BLOCKED;
            }
            keepSight(store, key);
            registers[a] = valueSeen(store, key);
            registers[FOUND] = seesValue(store, key) ? 1 : 0;
            return STEP_DONE;
        }

        private int doPut(Store store, int key, int value) {
            if (!isKey(key)) {
                return abort(store);
            }
            work.keepPut(key, value);
            return STEP_DONE;
        }

        private int doDrop(Store store, int key) {
            if (!isKey(key)) {
                return abort(store);
            }
            work.keepDrop(key);
            return STEP_DONE;
        }

        private int doSum(Store store, int a, int least, int greatest) {
            for (int key = least; key <= greatest; key++) {
                if (mustWaitFor(store, key)) {
                    return STEP_BLOCKED;
                }
            }
            int sum = 0;
            int found = 0;
            for (int key = least; key <= greatest; key++) {
                keepSight(store, key);
                keepNode(store.leafAt(store.placeOf(key)));
                sum += valueSeen(store, key);
                found += seesValue(store, key) ? 1 : 0;
            }
            registers[a] = sum;
            registers[FOUND] = found;
            return STEP_DONE;
        }

        // Its own writes hide the record, so a lock on that is no matter.
        private boolean mustWaitFor(Store store, int key) {
            return !work.writes(key) && store.isLockedByOther(key, sign);
        }

        private void keepSight(Store store, int key) {
            if (work.writes(key)) {
                return;
            }
            if (!store.has(key)) {
                keepNode(store.leafAt(store.placeOf(key)));
            } else if (readStamps[key] == UNSEEN) {
                readStamps[key] = store.stamps[key];
                readCount++;
            }
        }

        private void keepNode(Leaf seen) {
            if (nodeVersions[seen.name - 1] == UNSEEN) {
                nodeVersions[seen.name - 1] = seen.version;
                nodeCount++;
            }
        }

        private boolean seesValue(Store store, int key) {
            return work.writes(key) ? work.puts(key) : store.beings[key] == Store.PRESENT;
        }

        private int valueSeen(Store store, int key) {
            return work.writes(key) ? work.values[key] : store.values[key];
        }

        private void giveAndLock(int given) {
            work.given = given;
            state = LOCKING;
        }

        private int lockOne(Store store, int storeEpoch) {
            int key = leastWrite(store, false);
            if (key == KEYS) {
                state = FENCED;
                ownEpoch = storeEpoch;
                return STEP_DONE;
            }
            if (store.isLockedByOther(key, sign)) {
                return STEP_BLOCKED;
            }
            if (!store.has(key)) {
                addRecord(store, key);
            }
            store.locks[key] = sign;
            return STEP_DONE;
        }

        // All of its writes are locked before the first is installed, and installing unlocks:
        // so its locks tell which writes still wait, in both states.
        private int leastWrite(Store store, boolean locked) {
            for (int key = 0; key < KEYS; key++) {
                if (work.writes(key) && (store.locks[key] == sign) == locked) {
                    return key;
                }
            }
            return KEYS;
        }

        // A leaf changed by the run's own adding must not look as if another had changed it.
        private void addRecord(Store store, int key) {
            Leaf grown = store.leafAt(store.placeOf(key));
            int leavesBefore = store.leafCount;
            boolean wasAsKept = nodeVersions[grown.name - 1] == grown.version;
            store.add(key);
            if (wasAsKept) {
                nodeVersions[grown.name - 1] = grown.version;
                if (store.leafCount > leavesBefore) {
                    keepNode(store.leaves[leavesBefore]);
                }
            }
        }

        private int lookAgain(Store store) {
            if (!readsHold(store) || !nodesHold(store)) {
                return abort(store);
            }
            work.stamp = nextStamp(store);
            latestStamp = work.stamp;
            state = INSTALLING;
            return STEP_DONE;
        }

        private boolean readsHold(Store store) {
            for (int key = 0; key < KEYS; key++) {
                if (readStamps[key] != UNSEEN
                        && (readStamps[key] != store.stamps[key] || store.isLockedByOther(key, sign))) {
                    return false;
                }
            }
            return true;
        }

        private boolean nodesHold(Store store) {
            for (int i = 0; i < Store.MOST_LEAVES; i++) {
                if (nodeVersions[i] != UNSEEN && nodeVersions[i] != store.leaves[i].version) {
                    return false;
                }
            }
            return true;
        }

        // No stamp that counts here has a later epoch, and 100 transactions can't use up 1024 numbers.
        private int nextStamp(Store store) {
            int greatest = latestStamp;
            for (int key = 0; key < KEYS; key++) {
                greatest = Math.max(greatest, readStamps[key]);
                if (work.writes(key)) {
                    greatest = Math.max(greatest, store.stamps[key]);
                }
            }
            return Math.max(greatest + 1, ownEpoch * STAMPS_OF_AN_EPOCH);
        }

        private int installOne(Store store) {
            int key = leastWrite(store, true);
            if (key == KEYS) {
                work.status = COMMITTED;
                state = IDLE;
                return STEP_COMMITTED;
            }
            store.install(key, work.puts(key), work.values[key], work.stamp);
            return STEP_DONE;
        }

        private int abort(Store store) {
            store.unlockAllOf(sign);
            work.status = ABORTED;
            state = IDLE;
            return STEP_ABORTED;
        }
    }
}
