/** Promise 6: prepare, with the check of a transaction at a replica. */
final class PrepareTest extends Scenes {
    public static void main(String[] args) {
        okByItself();
        abortByAGreaterVersion();
        abortByAVersionFromTheFuture();
        abstainByAPreparedWrite();
        retryByAPreparedRead();
        retryByAnAppliedRead();
        retryByAGreaterVersion();
        everyKeyIsLookedAt();
        theOrderOfTheCheck();
        onlyPreparedOnesCount();
        preparedOnesOfAChangeCount();
        endedOnesCount();
        theRecordIsKept();
        theRecordOfAChange();
        theLatestAnswer();
        close();
    }

    private static void okByItself() {
        TapirGroup g = new TapirGroup();
        g.begin(0);
        g.read(0, 0, 0);
        g.write(0, 0, 1);
        g.propose(0, 1);
        due("prepare", OK, g.prepare(0, 1));
        due("record(1, 1)", OK, g.record(1, 1));
        due("record(0, 1)", -1, g.record(0, 1));
        due("answers", 1, g.client(0, 5));
        due("STATE", PROPOSED, g.client(0, 0));
        due("prepare again", OK, g.prepare(0, 1));
        due("answers, one of each replica", 1, g.client(0, 5));
    }

    private static void abortByAGreaterVersion() {
        TapirGroup g = new TapirGroup();
        g.begin(0);
        g.read(0, 3, 0);
        commitWrite(g, 1, 3, 5, 10, 0);
        g.propose(0, 20);
        due("the key has a greater version", ABORT, g.prepare(0, 0));
        due("record", ABORT, g.record(0, 1));
        TapirGroup same = new TapirGroup();
        commitWrite(same, 1, 3, 5, 10, 0, 1, 2);
        proposeRead(same, 0, 3, 0, 20);
        due("the key has the version seen", OK, same.prepare(0, 1));
        TapirGroup less = new TapirGroup();
        commitWrite(less, 1, 3, 5, 10, 0);
        less.begin(2);
        less.read(2, 4, 0);
        less.read(2, 3, 0);
        less.propose(2, 20);
        due("the key has a smaller version, but a write is prepared", ABSTAIN, less.prepare(2, 1));
    }

    private static void abortByAVersionFromTheFuture() {
        TapirGroup g = new TapirGroup();
        commitWrite(g, 1, 3, 5, 10, 0, 1, 2);
        proposeRead(g, 0, 3, 0, 10);
        due("seen 41, timestamp 40", ABORT, g.prepare(0, 0));
        proposeRead(g, 2, 3, 0, 10);
        due("seen 41, timestamp 42", OK, g.prepare(2, 0));
        TapirGroup apart = new TapirGroup();
        commitWrite(apart, 1, 3, 5, 10, 0);
        proposeRead(apart, 0, 3, 0, 10);
        due("also where that version is not known", ABORT, apart.prepare(0, 1));
    }

    private static void abstainByAPreparedWrite() {
        for (int time : new int[] {5, 15}) {
            TapirGroup g = new TapirGroup();
            proposeWrite(g, 1, 2, 6, time);
            g.prepare(1, 0);
            g.begin(0);
            g.read(0, 2, 0);
            g.read(0, 3, 0);
            g.propose(0, 10);
            due("prepared there with time " + time, ABSTAIN, g.prepare(0, 0));
            due("record", ABSTAIN, g.record(0, 2));
            due("not prepared there", OK, g.prepare(0, 1));
        }
        TapirGroup other = new TapirGroup();
        proposeWrite(other, 1, 2, 6, 5);
        other.prepare(1, 0);
        proposeRead(other, 0, 3, 0, 10);
        due("another key", OK, other.prepare(0, 0));
        proposeWrite(other, 2, 2, 9, 3);
        due("a write of a prepared write's key", OK, other.prepare(2, 0));
    }

    private static void retryByAPreparedRead() {
        TapirGroup g = new TapirGroup();
        proposeRead(g, 1, 2, 0, 10);
        g.prepare(1, 0);
        proposeWrite(g, 0, 2, 9, 10);
        due("read by 41, timestamp 40", RETRY, g.prepare(0, 0));
        due("record", RETRY, g.record(0, 2));
        due("not prepared there", OK, g.prepare(0, 2));
        proposeWrite(g, 2, 2, 9, 10);
        due("read by 41, timestamp 42", OK, g.prepare(2, 0));
        proposeWrite(g, 3, 1, 9, 1);
        due("another key", OK, g.prepare(3, 0));
    }

    private static void retryByAnAppliedRead() {
        TapirGroup g = new TapirGroup();
        commitRead(g, 1, 2, 10, 0, 1, 2);
        proposeWrite(g, 0, 2, 9, 10);
        due("read by 41, timestamp 40", RETRY, g.prepare(0, 0));
        proposeWrite(g, 2, 2, 9, 10);
        due("read by 41, timestamp 42", OK, g.prepare(2, 0));
        proposeWrite(g, 3, 1, 9, 1);
        due("another key", OK, g.prepare(3, 0));
    }

    private static void retryByAGreaterVersion() {
        TapirGroup g = new TapirGroup();
        commitWrite(g, 1, 2, 5, 10, 0, 1, 2);
        proposeWrite(g, 0, 2, 9, 10);
        due("version 41, timestamp 40", RETRY, g.prepare(0, 0));
        proposeWrite(g, 2, 2, 9, 10);
        due("version 41, timestamp 42", OK, g.prepare(2, 0));
        proposeWrite(g, 3, 1, 9, 1);
        due("another key", OK, g.prepare(3, 0));
    }

    private static void everyKeyIsLookedAt() {
        for (int key = 0; key < 6; key++) {
            TapirGroup g = new TapirGroup();
            g.begin(0);
            g.read(0, key, 0);
            commitWrite(g, 1, key, 5, 10, 0, 1, 2);
            g.propose(0, 20);
            due("a greater version of key " + key, ABORT, g.prepare(0, 0));
            proposeWrite(g, 2, key, 5, 5);
            due("a write under a greater version of key " + key, RETRY, g.prepare(2, 0));
            TapirGroup reads = new TapirGroup();
            commitRead(reads, 1, key, 10, 0, 1, 2);
            proposeWrite(reads, 2, key, 5, 5);
            due("a write under an applied read of key " + key, RETRY, reads.prepare(2, 0));
            TapirGroup prepared = new TapirGroup();
            proposeRead(prepared, 0, key, 0, 10);
            prepared.prepare(0, 0);
            proposeWrite(prepared, 1, key, 5, 5);
            due("a write under a prepared read of key " + key, RETRY, prepared.prepare(1, 0));
            proposeWrite(prepared, 2, key, 5, 20);
            prepared.prepare(2, 0);
            proposeRead(prepared, 3, key, 0, 30);
            due("a read of a prepared write of key " + key, ABSTAIN, prepared.prepare(3, 0));
        }
    }

    private static void theOrderOfTheCheck() {
        TapirGroup g = new TapirGroup();
        g.begin(0);
        g.read(0, 0, 0);
        g.write(0, 1, 1);
        g.begin(3);
        g.read(3, 5, 0);
        g.write(3, 1, 1);
        commitWrite(g, 1, 1, 5, 10, 0, 1, 2);
        proposeWrite(g, 2, 0, 5, 20);
        g.prepare(2, 0);
        g.propose(0, 5);
        g.propose(3, 5);
        due("RETRY alone", RETRY, g.prepare(3, 0));
        due("ABSTAIN before RETRY", ABSTAIN, g.prepare(0, 0));
        g.prepare(2, 1);
        g.prepare(2, 2);
        g.decide(2);
        g.finish(2, 0);
        g.end(2);
        proposeWrite(g, 2, 0, 6, 30);
        g.prepare(2, 0);
        g.propose(0, 6);
        due("ABORT before ABSTAIN and RETRY", ABORT, g.prepare(0, 0));
    }

    private static void onlyPreparedOnesCount() {
        TapirGroup applied = new TapirGroup();
        commitWrite(applied, 1, 2, 6, 5, 0);
        proposeRead(applied, 0, 2, 0, 10);
        due("a write that is applied", OK, applied.prepare(0, 0));

        TapirGroup dropped = answered(OK, ABSTAIN, OK);
        dropped.change();
        dropped.prepare(0, 0);
        dropped.prepare(0, 1);
        due("decide", ABORT, dropped.decide(0));
        dropped.confirm(0, 0);
        dropped.confirm(0, 1);
        dropped.finish(0, 0);
        proposeRead(dropped, 2, 1, 0, 90);
        due("a write that is dropped", OK, dropped.prepare(2, 0));

        TapirGroup both = abortWithAnOk();
        proposeRead(both, 2, 1, 0, 90);
        due("a write with OK, before it is dropped", ABSTAIN, both.prepare(2, 0));
        due("finish", true, both.finish(0, 0));
        due("record of a dropped one with OK", OK | DROPPED, both.record(0, SUBJECT));
        both.propose(2, 91);
        due("a write with OK, when it is dropped", OK, both.prepare(2, 0));

        TapirGroup retries = answered(RETRY, ABSTAIN, NOT_ASKED);
        proposeRead(retries, 2, 1, 0, 90);
        due("a write with RETRY", OK, retries.prepare(2, 0));
        due("a write with ABSTAIN", OK, retries.prepare(2, 1));
    }

    /** SUBJECT is decided to abort, and replica 0 holds an OK of it. */
    private static TapirGroup abortWithAnOk() {
        TapirGroup g = answered(OK, ABSTAIN, ABSTAIN);
        g.decide(0);
        g.confirm(0, 1);
        g.confirm(0, 2);
        return g;
    }

    private static void preparedOnesOfAChangeCount() {
        TapirGroup g = answered(OK, OK, OK);
        g.change();
        due("record", OK | FINAL, g.record(0, SUBJECT));
        proposeRead(g, 2, 1, 0, 90);
        due("a write that is final with OK", ABSTAIN, g.prepare(2, 0));
    }

    private static void endedOnesCount() {
        TapirGroup g = new TapirGroup();
        commitWrite(g, 1, 2, 6, 5, 0);
        proposeWrite(g, 1, 4, 6, 6);
        proposeRead(g, 0, 2, 0, 10);
        due("ended, and not finished there", ABSTAIN, g.prepare(0, 1));
    }

    private static void theRecordIsKept() {
        TapirGroup g = new TapirGroup();
        proposeRead(g, 0, 2, 0, 10);
        due("prepare", OK, g.prepare(0, 0));
        commitWrite(g, 1, 2, 6, 20, 0);
        due("no second check", OK, g.prepare(0, 0));
        g.propose(0, 30);
        due("a check behind propose", ABORT, g.prepare(0, 0));
    }

    private static void theRecordOfAChange() {
        TapirGroup g = answered(OK, NOT_ASKED, NOT_ASKED);
        g.change();
        due("prepare where a change made the record", ABORT, g.prepare(0, 1));
        due("record is final still", ABORT | FINAL, g.record(1, SUBJECT));
    }

    private static void theLatestAnswer() {
        TapirGroup g = answered(OK, OK, NOT_ASKED);
        g.change();
        due("prepare where a change made another result", ABORT, g.prepare(0, 0));
        due("answers", 2, g.client(0, 5));
        due("decide by the latest", ABORT, g.decide(0));
    }
}
