import java.util.Arrays;

/**
 * Transactions over three replicas that have no order between them: each replica checks a
 * transaction by timestamps, clients decide by what they heard, and a change of view merges what
 * the replicas know.
 */
public final class TapirGroup {
    private static final int REPLICAS = 3;
    private static final int KEYS = 6;
    private static final int CLIENTS = 4;
    private static final int MOST_TRANSACTIONS = 60;
    private static final int MOST_KEYS = 4;
    private static final int LAST_TIME = 1000000;
    /** Two replicas of three: any two such pairs have one in common. */
    private static final int MAJORITY = 2;

    private static final int OK = 0;
    private static final int ABSTAIN = 1;
    private static final int ABORT = 2;
    private static final int RETRY = 3;

    /** A record is one number, the one that record() answers: a result and these marks. */
    private static final int RESULT = 3;
    private static final int FINAL = 4;
    private static final int APPLIED = 8;
    private static final int DROPPED = 16;

    private static final int NONE = -1;

    private static final int IDLE = 0;
    private static final int RUNNING = 1;
    private static final int PROPOSED = 2;
    private static final int SLOW = 3;
    private static final int TO_COMMIT = 4;
    private static final int TO_ABORT = 5;

    private final Replica[] replicas = new Replica[REPLICAS];
    private final Client[] clients = new Client[CLIENTS];
    /** By number, those that ended too: their records still meet later checks. */
    private final Transaction[] transactions = new Transaction[MOST_TRANSACTIONS + 1];
    private int begun = 0;

    public TapirGroup() {
        for (int i = 0; i < REPLICAS; i++) {
            replicas[i] = new Replica();
        }
        for (int i = 0; i < CLIENTS; i++) {
            clients[i] = new Client();
        }
    }

    public int begin(int client) throws IllegalArgumentException, IllegalStateException {
        if (!isClient(client)) {
            throw new IllegalArgumentException("no such client");
        }
        Client owner = clients[client];
        if (owner.transaction != null || begun >= MOST_TRANSACTIONS) {
            throw new IllegalStateException("it has a transaction, or there were 60");
        }
        begun++;
        Transaction started = new Transaction(begun);
        transactions[begun] = started;
        owner.take(started);
        return begun;
    }

    public int read(int client, int key, int replica)
            throws IllegalArgumentException, IllegalStateException, UnsupportedOperationException,
            IndexOutOfBoundsException {
        if (!isClient(client) || !isKey(key) || !isReplica(replica)) {
            throw new IllegalArgumentException("no such client, key or replica");
        }
        Transaction mine = clients[client].transaction;
        if (mine == null || clients[client].state != RUNNING) {
            throw new IllegalStateException("its transaction is not running");
        }
        if (mine.hasWritten(key)) {
            return mine.written[key];
        }
        if (mine.hasRead(key)) {
            return mine.seenValue[key];
        }
        if (!serves(replica)) {
            throw new UnsupportedOperationException("the replica does not serve");
        }
        if (mine.readCount() >= MOST_KEYS) {
            throw new IndexOutOfBoundsException("four keys are read");
        }
        mine.see(key, replicas[replica].version[key], replicas[replica].value[key]);
        return mine.seenValue[key];
    }

    public void write(int client, int key, int value)
            throws IllegalArgumentException, IllegalStateException, IndexOutOfBoundsException {
        if (!isClient(client) || !isKey(key)) {
            throw new IllegalArgumentException("no such client or key");
        }
        Transaction mine = clients[client].transaction;
        if (mine == null || clients[client].state != RUNNING) {
            throw new IllegalStateException("its transaction is not running");
        }
        if (!mine.hasWritten(key) && mine.writeCount() >= MOST_KEYS) {
            throw new IndexOutOfBoundsException("four others are written");
        }
        mine.put(key, value);
    }

    public void propose(int client, int time)
            throws IllegalArgumentException, IllegalStateException {
        if (!isClient(client) || time < 1 || time > LAST_TIME) {
            throw new IllegalArgumentException("no such client or time");
        }
        Client owner = clients[client];
        Transaction mine = owner.transaction;
        if (mine == null || !owner.mayPropose() || time <= owner.latestTime) {
            throw new IllegalStateException("it can't be proposed, or not with this time");
        }
        mine.timestamp = CLIENTS * time + client;
        owner.startProposal(time);
        for (int i = 0; i < REPLICAS; i++) {
            replicas[i].forget(mine.number);
        }
    }

    public int prepare(int client, int replica)
            throws IllegalArgumentException, IllegalStateException, UnsupportedOperationException {
        if (!isClient(client) || !isReplica(replica)) {
            throw new IllegalArgumentException("no such client or replica");
        }
        Transaction mine = clients[client].transaction;
        if (mine == null || clients[client].state != PROPOSED) {
            throw new IllegalStateException("it is not proposed");
        }
        if (!serves(replica)) {
            throw new UnsupportedOperationException("the replica does not serve");
        }
        Replica asked = replicas[replica];
        if (!asked.knows(mine.number)) {
            asked.records[mine.number] = check(mine, asked);
        }
        int result = asked.resultOf(mine.number);
        clients[client].answers[replica] = result;
        return result;
    }

    public int decide(int client) throws IllegalArgumentException, IllegalStateException {
        if (!isClient(client)) {
            throw new IllegalArgumentException("no such client");
        }
        Client owner = clients[client];
        if (owner.state != PROPOSED || owner.answerCount() < MAJORITY) {
            throw new IllegalStateException("it is not proposed, or has too few answers");
        }
        int result = owner.resultByAnswers();
        if (result == RETRY) {
            return RETRY;
        }
        if (owner.allAnsweredAlike()) {
            owner.settle(result);
        } else {
            owner.goSlow(result);
        }
        return result;
    }

    public int confirm(int client, int replica)
            throws IllegalArgumentException, IllegalStateException, UnsupportedOperationException {
        if (!isClient(client) || !isReplica(replica)) {
            throw new IllegalArgumentException("no such client or replica");
        }
        Client owner = clients[client];
        Transaction mine = owner.transaction;
        if (mine == null || owner.state != SLOW) {
            throw new IllegalStateException("it is not slow");
        }
        if (!serves(replica)) {
            throw new UnsupportedOperationException("the replica does not serve");
        }
        Replica asked = replicas[replica];
        if (!asked.has(mine.number, FINAL)) {
            asked.makeFinal(mine.number, owner.slowResult);
        }
        if (asked.resultOf(mine.number) == owner.slowResult) {
            owner.confirmedBy |= 1 << replica;
        }
        int confirmed = owner.confirmationCount();
        if (confirmed >= MAJORITY) {
            owner.settle(owner.slowResult);
        }
        return confirmed;
    }

    public boolean finish(int client, int replica)
            throws IllegalArgumentException, IllegalStateException, UnsupportedOperationException {
        if (!isClient(client) || !isReplica(replica)) {
            throw new IllegalArgumentException("no such client or replica");
        }
        Client owner = clients[client];
        Transaction mine = owner.transaction;
        if (mine == null || !owner.isDecided()) {
            throw new IllegalStateException("it is not decided");
        }
        if (!serves(replica)) {
            throw new UnsupportedOperationException("the replica does not serve");
        }
        Replica told = replicas[replica];
        if (told.has(mine.number, APPLIED | DROPPED)) {
            return false;
        }
        if (owner.state == TO_COMMIT) {
            told.takeIn(mine);
            told.mark(mine.number, APPLIED, OK);
        } else {
            told.mark(mine.number, DROPPED, ABORT);
        }
        return true;
    }

    public void end(int client) throws IllegalArgumentException, IllegalStateException {
        if (!isClient(client)) {
            throw new IllegalArgumentException("no such client");
        }
        if (!clients[client].isDecided()) {
            throw new IllegalStateException("it is not decided");
        }
        clients[client].release();
    }

    public boolean power(int replica, boolean up) throws IllegalArgumentException {
        if (!isReplica(replica)) {
            throw new IllegalArgumentException("no such replica");
        }
        boolean changes = replicas[replica].up != up;
        replicas[replica].up = up;
        return changes;
    }

    public int change() throws IllegalStateException {
        if (upCount() < MAJORITY) {
            throw new IllegalStateException("fewer than two are up");
        }
        int next = groupView() + 1;
        int newest = newestViewUp();
        for (int number = 1; number <= begun; number++) {
            mergeRecords(number, newest);
        }
        for (int key = 0; key < KEYS; key++) {
            mergeKey(key);
        }
        for (int i = 0; i < REPLICAS; i++) {
            if (replicas[i].up) {
                replicas[i].view = next;
            }
        }
        return next;
    }

    public int client(int c, int what) {
        if (!isClient(c) || what < 0 || what > 7) {
            return NONE;
        }
        Client owner = clients[c];
        Transaction mine = owner.transaction;
        if (what == 7) {
            return owner.state == SLOW ? owner.slowResult : NONE;
        }
        if (mine == null) {
            return 0;
        }
        switch (what) {
            case 0:
                return owner.state;
            case 1:
                return mine.number;
            case 2:
                return mine.timestamp;
            case 3:
                return mine.readCount();
            case 4:
                return mine.writeCount();
            case 5:
                return owner.answerCount();
            default:
                return owner.confirmationCount();
        }
    }

    public int at(int replica, int key, int what) {
        if (!isReplica(replica) || !isKey(key)) {
            return NONE;
        }
        switch (what) {
            case 0:
                return replicas[replica].version[key];
            case 1:
                return replicas[replica].value[key];
            case 2:
                return replicas[replica].lastRead[key];
            default:
                return NONE;
        }
    }

    public int record(int replica, int transaction) {
        if (!isReplica(replica) || transaction < 1 || transaction > begun) {
            return NONE;
        }
        return replicas[replica].records[transaction];
    }

    public int state(int what) {
        switch (what) {
            case 0:
                return groupView();
            case 1:
                return begun;
            case 2:
            case 3:
            case 4:
                return replicas[what - 2].view;
            case 5:
            case 6:
            case 7:
                return replicas[what - 5].up ? 1 : 0;
            default:
                return NONE;
        }
    }

    private static boolean isClient(int client) {
        return client >= 0 && client < CLIENTS;
    }

    private static boolean isKey(int key) {
        return key >= 0 && key < KEYS;
    }

    private static boolean isReplica(int replica) {
        return replica >= 0 && replica < REPLICAS;
    }

    /** Those that are down count too: a replica that missed a change must not serve. */
    private int groupView() {
        int greatest = 0;
        for (int i = 0; i < REPLICAS; i++) {
            greatest = Math.max(greatest, replicas[i].view);
        }
        return greatest;
    }

    private boolean serves(int replica) {
        return replicas[replica].up && replicas[replica].view == groupView();
    }

    private int upCount() {
        int count = 0;
        for (int i = 0; i < REPLICAS; i++) {
            if (replicas[i].up) {
                count++;
            }
        }
        return count;
    }

    private int newestViewUp() {
        int newest = 0;
        for (int i = 0; i < REPLICAS; i++) {
            if (replicas[i].up) {
                newest = Math.max(newest, replicas[i].view);
            }
        }
        return newest;
    }

    private int check(Transaction mine, Replica asked) {
        if (asked.hasStaleRead(mine)) {
            return ABORT;
        }
        if (readsWhatIsPrepared(mine, asked)) {
            return ABSTAIN;
        }
        if (asked.hasLaterUse(mine) || writesWhatIsReadLater(mine, asked)) {
            return RETRY;
        }
        return OK;
    }

    private boolean readsWhatIsPrepared(Transaction mine, Replica asked) {
        for (int number = 1; number <= begun; number++) {
            Transaction other = transactions[number];
            if (other != null && other != mine && asked.isPrepared(number)
                    && (mine.readKeys & other.writtenKeys) != 0) {
                return true;
            }
        }
        return false;
    }

    private boolean writesWhatIsReadLater(Transaction mine, Replica asked) {
        for (int number = 1; number <= begun; number++) {
            Transaction other = transactions[number];
            if (other != null && other != mine && asked.isPrepared(number)
                    && other.timestamp > mine.timestamp
                    && (mine.writtenKeys & other.readKeys) != 0) {
                return true;
            }
        }
        return false;
    }

    private void mergeRecords(int number, int newest) {
        if (someUpHas(number, APPLIED)) {
            markAtAllUp(number, APPLIED, OK);
        } else if (someUpHas(number, DROPPED)) {
            markAtAllUp(number, DROPPED, ABORT);
        } else if (someUpKnows(number)) {
            int result = mergedResult(number, newest);
            for (int i = 0; i < REPLICAS; i++) {
                if (replicas[i].up) {
                    replicas[i].makeFinal(number, result);
                }
            }
        }
    }

    private boolean someUpHas(int number, int marks) {
        for (int i = 0; i < REPLICAS; i++) {
            if (replicas[i].up && replicas[i].has(number, marks)) {
                return true;
            }
        }
        return false;
    }

    private boolean someUpKnows(int number) {
        for (int i = 0; i < REPLICAS; i++) {
            if (replicas[i].up && replicas[i].knows(number)) {
                return true;
            }
        }
        return false;
    }

    /** Versions need nothing here: where it was applied they are no older, and mergeKey() spreads them. */
    private void markAtAllUp(int number, int mark, int resultIfMade) {
        for (int i = 0; i < REPLICAS; i++) {
            if (replicas[i].up) {
                replicas[i].mark(number, mark, resultIfMade);
            }
        }
    }

    private int mergedResult(int number, int newest) {
        for (int i = 0; i < REPLICAS; i++) {
            if (replicas[i].up && replicas[i].view == newest && replicas[i].has(number, FINAL)) {
                return replicas[i].resultOf(number);
            }
        }
        for (int result = ABSTAIN; result <= RETRY; result++) {
            if (upCountWith(number, result) >= MAJORITY) {
                return result;
            }
        }
        // Those that wait need no second pass: no result here hangs on another transaction's.
        return upCountWith(number, OK) == upCount() ? OK : ABORT;
    }

    private int upCountWith(int number, int result) {
        int count = 0;
        for (int i = 0; i < REPLICAS; i++) {
            if (replicas[i].up && replicas[i].resultOf(number) == result) {
                count++;
            }
        }
        return count;
    }

    private void mergeKey(int key) {
        int version = 0;
        int value = 0;
        int lastRead = 0;
        for (int i = 0; i < REPLICAS; i++) {
            Replica known = replicas[i];
            if (known.up && known.version[key] > version) {
                version = known.version[key];
                value = known.value[key];
            }
            if (known.up) {
                lastRead = Math.max(lastRead, known.lastRead[key]);
            }
        }
        for (int i = 0; i < REPLICAS; i++) {
            if (replicas[i].up) {
                replicas[i].version[key] = version;
                replicas[i].value[key] = value;
                replicas[i].lastRead[key] = lastRead;
            }
        }
    }

    /** What a transaction read and wrote; sets of keys are bits, so that two are compared at once. */
    private static final class Transaction {
        final int number;
        int timestamp = 0;
        int readKeys = 0;
        int writtenKeys = 0;
        final int[] seenVersion = new int[KEYS];
        final int[] seenValue = new int[KEYS];
        final int[] written = new int[KEYS];

        Transaction(int number) {
            this.number = number;
        }

        boolean hasRead(int key) {
            return (readKeys >> key & 1) != 0;
        }

        boolean hasWritten(int key) {
            return (writtenKeys >> key & 1) != 0;
        }

        int readCount() {
            return Integer.bitCount(readKeys);
        }

        int writeCount() {
            return Integer.bitCount(writtenKeys);
        }

        void see(int key, int version, int value) {
            readKeys |= 1 << key;
            seenVersion[key] = version;
            seenValue[key] = value;
        }

        void put(int key, int value) {
            writtenKeys |= 1 << key;
            written[key] = value;
        }
    }

    private static final class Client {
        Transaction transaction = null;
        int state = IDLE;
        int latestTime = 0;
        int slowResult = NONE;
        int confirmedBy = 0;
        final int[] answers = new int[REPLICAS];

        Client() {
            Arrays.fill(answers, NONE);
        }

        void take(Transaction started) {
            transaction = started;
            state = RUNNING;
            forgetReplies();
        }

        void release() {
            transaction = null;
            state = IDLE;
        }

        boolean mayPropose() {
            return state == RUNNING || state == PROPOSED;
        }

        void startProposal(int time) {
            latestTime = time;
            state = PROPOSED;
            forgetReplies();
        }

        void forgetReplies() {
            Arrays.fill(answers, NONE);
            confirmedBy = 0;
        }

        void goSlow(int result) {
            state = SLOW;
            slowResult = result;
        }

        void settle(int result) {
            state = result == OK ? TO_COMMIT : TO_ABORT;
        }

        boolean isDecided() {
            return state == TO_COMMIT || state == TO_ABORT;
        }

        int confirmationCount() {
            return Integer.bitCount(confirmedBy);
        }

        int answerCount() {
            return REPLICAS - answersWith(NONE);
        }

        int answersWith(int result) {
            int count = 0;
            for (int i = 0; i < REPLICAS; i++) {
                if (answers[i] == result) {
                    count++;
                }
            }
            return count;
        }

        boolean allAnsweredAlike() {
            return answers[0] != NONE && answersWith(answers[0]) == REPLICAS;
        }

        int resultByAnswers() {
            if (answersWith(ABORT) > 0) {
                return ABORT;
            }
            if (answersWith(OK) >= MAJORITY) {
                return OK;
            }
            if (answersWith(ABSTAIN) >= MAJORITY) {
                return ABORT;
            }
            return answersWith(RETRY) > 0 ? RETRY : ABORT;
        }
    }

    private static final class Replica {
        boolean up = true;
        int view = 0;
        final int[] version = new int[KEYS];
        final int[] value = new int[KEYS];
        final int[] lastRead = new int[KEYS];
        final int[] records = new int[MOST_TRANSACTIONS + 1];

        Replica() {
            Arrays.fill(records, NONE);
        }

        boolean knows(int number) {
            return records[number] != NONE;
        }

        /** Whether one of these marks stands on the record. */
        boolean has(int number, int marks) {
            return knows(number) && (records[number] & marks) != 0;
        }

        int resultOf(int number) {
            return knows(number) ? records[number] & RESULT : NONE;
        }

        boolean isPrepared(int number) {
            return resultOf(number) == OK && !has(number, APPLIED | DROPPED);
        }

        void forget(int number) {
            records[number] = NONE;
        }

        void makeFinal(int number, int result) {
            records[number] = result | FINAL;
        }

        void mark(int number, int mark, int resultIfMade) {
            int held = knows(number) ? records[number] : resultIfMade;
            records[number] = held | mark;
        }

        boolean hasStaleRead(Transaction mine) {
            for (int key = 0; key < KEYS; key++) {
                if (mine.hasRead(key) && (version[key] > mine.seenVersion[key]
                        || mine.seenVersion[key] >= mine.timestamp)) {
                    return true;
                }
            }
            return false;
        }

        /** Whether a key that it writes has a later version here or was read by a later applied one. */
        boolean hasLaterUse(Transaction mine) {
            for (int key = 0; key < KEYS; key++) {
                if (mine.hasWritten(key)
                        && (version[key] > mine.timestamp || lastRead[key] > mine.timestamp)) {
                    return true;
                }
            }
            return false;
        }

        void takeIn(Transaction applied) {
            for (int key = 0; key < KEYS; key++) {
                if (applied.hasWritten(key) && applied.timestamp > version[key]) {
                    version[key] = applied.timestamp;
                    value[key] = applied.written[key];
                }
                if (applied.hasRead(key)) {
                    lastRead[key] = Math.max(lastRead[key], applied.timestamp);
                }
            }
        }
    }
}
