/** Promise 6, prepare, and the check: each sentence that names a boundary case. */
final class PrepareEdgesTest extends Edges {
    public static void main(String[] args) {
        sentence("REPLICAS 0, 1, 2", PrepareEdgesTest::firstAndLast);
        sentence("made by a check (without its own record) if it has none", PrepareEdgesTest::itsOwnKeys);
        sentence("if it has none", PrepareEdgesTest::noSecondCheck);
        sentence("an answer from now on (one of each replica, the latest)", PrepareEdgesTest::oneOfEachReplica);
        sentence("no such client or replica", PrepareEdgesTest::noSuchArgument);
        sentence("it is not proposed", PrepareEdgesTest::notProposed);
        sentence("the replica does not serve", PrepareEdgesTest::doesNotServe);
        sentence("The first of these", PrepareEdgesTest::order);
        sentence("some key that it read has a greater version there than the one seen",
            PrepareEdgesTest::aGreaterVersionThanSeen);
        sentence("or the version seen is not less than its timestamp", PrepareEdgesTest::aVersionFromLater);
        sentence("some key that it read is written by another one that is prepared there",
            PrepareEdgesTest::aPreparedWrite);
        sentence("some key that it writes is read by another one that is prepared there with a greater timestamp",
            PrepareEdgesTest::aPreparedRead);
        sentence("or was read by an applied one with a greater timestamp", PrepareEdgesTest::anAppliedRead);
        sentence("or has a greater version there", PrepareEdgesTest::aGreaterVersion);
        sentence("TO CHECK a transaction at a replica, the first of these", PrepareEdgesTest::orderOfTheCheck);
        sentence("at most 4 keys are read and 4 written", PrepareEdgesTest::theFourthOfFour);
        close();
    }

    private static void firstAndLast() {
        for (int c = 0; c < 4; c++) {
            for (int r = 0; r < 3; r++) {
                TapirGroup g = new TapirGroup();
                proposeWrite(g, c, 0, 1, 1);
                due("answers before the first", 0, g.client(c, 5));
                due("prepare(" + c + ", " + r + ")", OK, g.prepare(c, r));
                due("answers", 1, g.client(c, 5));
                for (int other = 0; other < 3; other++) {
                    due("record at " + other, other == r ? OK : -1, g.record(other, 1));
                }
            }
        }
    }

    private static void itsOwnKeys() {
        TapirGroup g = new TapirGroup();
        g.begin(0);
        g.read(0, 0, 0);
        g.write(0, 0, 1);
        g.propose(0, 1);
        due("prepare of one that writes what it read", OK, g.prepare(0, 0));
        due("prepare again", OK, g.prepare(0, 0));
        due("prepare elsewhere", OK, g.prepare(0, 1));
        g.propose(0, 2);
        due("prepare behind propose", OK, g.prepare(0, 0));
    }

    private static void noSecondCheck() {
        TapirGroup g = inState(PROPOSED);
        commitWrite(g, 1, 1, 9, 20, 0);
        due("where there is a record", OK, g.prepare(0, 0));
        due("record", OK, g.record(0, MINE));
        due("where there is none, and a write is prepared", ABSTAIN, g.prepare(0, 2));
        g.propose(0, 30);
        due("where there is none any more", ABORT, g.prepare(0, 0));
    }

    private static void oneOfEachReplica() {
        TapirGroup g = new TapirGroup();
        proposeWrite(g, 0, 0, 1, 1);
        for (int r = 0; r < 3; r++) {
            g.prepare(0, r);
            g.prepare(0, r);
            due("answers", r + 1, g.client(0, 5));
        }
        TapirGroup latest = answered(OK, OK, ABSTAIN);
        latest.change();
        due("the latest at 0", ABORT, latest.prepare(0, 0));
        due("answers", 3, latest.client(0, 5));
        latest.prepare(0, 1);
        latest.prepare(0, 2);
        due("three alike by the latest", ABORT, latest.decide(0));
        due("STATE", TO_ABORT, latest.client(0, 0));
    }

    private static void noSuchArgument() {
        for (int no : NO_CLIENT) {
            refusedIn(() -> inState(PROPOSED), "prepare(" + no + ", 0)", ARGUMENT, g -> g.prepare(no, 0));
        }
        for (int no : NO_REPLICA) {
            refusedIn(() -> inState(PROPOSED), "prepare(0, " + no + ")", ARGUMENT, g -> g.prepare(0, no));
        }
    }

    private static void notProposed() {
        for (int r = 0; r < 3; r += 2) {
            int replica = r;
            refusedInStates(allStatesBut(PROPOSED), "prepare(0, " + r + ")", STATE, g -> g.prepare(0, replica));
        }
    }

    private static void doesNotServe() {
        refusedWithoutService(PROPOSED, "prepare(0, 2)", g -> g.prepare(0, 2));
        TapirGroup g = inState(PROPOSED);
        g.prepare(0, 2);
        g.power(2, false);
        refused("prepare where there is a record, down", UNSUPPORTED, () -> g.prepare(0, 2));
        g.change();
        g.power(2, true);
        refused("prepare where there is a record, in an old view", UNSUPPORTED, () -> g.prepare(0, 2));
        due("the answer stays", 3, g.client(0, 5));
        g.change();
        due("prepare where it serves again", OK, g.prepare(0, 2));
    }

    private static void order() {
        refusedIn(() -> inState(RUNNING), "no such replica, and running", ARGUMENT, g -> g.prepare(0, 3));
        refusedIn(() -> inState(NEVER), "no such replica, and no transaction", ARGUMENT, g -> g.prepare(0, -1));
        refusedIn(() -> withOneDown(PROPOSED), "no such client, and down", ARGUMENT, g -> g.prepare(4, 2));
        for (int state : allStatesBut(PROPOSED)) {
            refusedIn(() -> withOneDown(state), "STATE " + state + ", and down", STATE, g -> g.prepare(0, 2));
        }
    }

    private static void aGreaterVersionThanSeen() {
        for (int time : new int[] {1, LAST_TIME - 1}) {
            TapirGroup g = new TapirGroup();
            g.begin(0);
            due("nothing written yet", 0, g.read(0, 1, 0));
            commitWrite(g, 1, 1, 5, time, 0, 1);
            g.propose(0, time + 1);
            due("version 0 was seen, and there is a first one", ABORT, g.prepare(0, 0));
            proposeRead(g, 2, 1, 1, time + 1);
            due("the version that was seen", OK, g.prepare(2, 0));
            proposeRead(g, 3, 2, 0, time);
            due("a key that nobody wrote", OK, g.prepare(3, 0));
        }
        TapirGroup next = new TapirGroup();
        commitWrite(next, 1, 1, 5, 7, 0, 1, 2);
        next.begin(3);
        next.read(3, 1, 0);
        commitWrite(next, 2, 1, 5, 7, 0);
        next.propose(3, 8);
        due("29 was seen, and there is 30", ABORT, next.prepare(3, 0));
        due("29 was seen, and 30 is prepared there", ABSTAIN, next.prepare(3, 1));
    }

    private static void aVersionFromLater() {
        for (int time : new int[] {1, LAST_TIME}) {
            TapirGroup g = new TapirGroup();
            commitWrite(g, 1, 1, 5, time, 0, 1, 2);
            proposeRead(g, 0, 1, 0, time);
            due("one more than the timestamp was seen", ABORT, g.prepare(0, 0));
            proposeRead(g, 2, 1, 0, time);
            due("one less than the timestamp was seen", OK, g.prepare(2, 0));
        }
        TapirGroup far = new TapirGroup();
        commitWrite(far, 3, 1, 5, LAST_TIME, 0, 1, 2);
        proposeRead(far, 0, 1, 0, 1);
        due("the last time was seen, and the first is its own", ABORT, far.prepare(0, 0));
    }

    private static void aPreparedWrite() {
        for (int time : new int[] {1, 7, LAST_TIME}) {
            TapirGroup g = new TapirGroup();
            proposeWrite(g, 1, 1, 5, time);
            g.begin(0);
            g.read(0, 1, 0);
            g.propose(0, 7);
            due("proposed, and not prepared", OK, g.prepare(0, 0));
            g.prepare(1, 1);
            due("prepared there, time " + time, ABSTAIN, g.prepare(0, 1));
            due("prepared elsewhere, time " + time, OK, g.prepare(0, 2));
        }
    }

    private static void aPreparedRead() {
        for (int time : new int[] {1, LAST_TIME}) {
            TapirGroup g = new TapirGroup();
            proposeRead(g, 1, 1, 0, time);
            proposeWrite(g, 0, 1, 5, time);
            due("proposed, and not prepared", OK, g.prepare(0, 0));
            g.prepare(1, 1);
            due("one more than the timestamp, time " + time, RETRY, g.prepare(0, 1));
            due("prepared elsewhere, time " + time, OK, g.prepare(0, 2));
            proposeWrite(g, 2, 1, 5, time);
            due("one less than the timestamp, time " + time, OK, g.prepare(2, 1));
        }
    }

    private static void anAppliedRead() {
        for (int time : new int[] {1, LAST_TIME}) {
            TapirGroup g = new TapirGroup();
            commitRead(g, 1, 1, time, 0);
            due("read by", 4 * time + 1, g.at(0, 1, 2));
            proposeWrite(g, 0, 1, 5, time);
            due("one more than the timestamp, time " + time, RETRY, g.prepare(0, 0));
            proposeWrite(g, 2, 1, 5, time);
            due("one less than the timestamp, time " + time, OK, g.prepare(2, 0));
            proposeWrite(g, 3, 2, 5, 1);
            due("a key that nobody read", OK, g.prepare(3, 0));
        }
    }

    private static void aGreaterVersion() {
        for (int time : new int[] {1, LAST_TIME}) {
            TapirGroup g = new TapirGroup();
            commitWrite(g, 1, 1, 5, time, 0);
            proposeWrite(g, 0, 1, 5, time);
            due("one more than the timestamp, time " + time, RETRY, g.prepare(0, 0));
            due("where it is prepared alone, time " + time, OK, g.prepare(0, 1));
            proposeWrite(g, 2, 1, 5, time);
            due("one less than the timestamp, time " + time, OK, g.prepare(2, 0));
            proposeWrite(g, 3, 2, 5, 1);
            due("a key that nobody wrote", OK, g.prepare(3, 0));
        }
    }

    /** Client 0 reads key 0 and writes key 1 (time 10); what stands against it at replica 0 is said. */
    private static int checked(boolean staleRead, boolean preparedWrite, boolean laterVersion) {
        TapirGroup g = new TapirGroup();
        g.begin(0);
        g.read(0, 0, 0);
        g.write(0, 1, 1);
        g.propose(0, 10);
        if (staleRead) {
            commitWrite(g, 1, 0, 5, 9, 0);
        }
        if (laterVersion) {
            commitWrite(g, 2, 1, 5, 11, 0);
        }
        if (preparedWrite) {
            proposeWrite(g, 3, 0, 5, 12);
            g.prepare(3, 0);
        }
        return g.prepare(0, 0);
    }

    private static void orderOfTheCheck() {
        due("all three", ABORT, checked(true, true, true));
        due("ABORT and ABSTAIN", ABORT, checked(true, true, false));
        due("ABORT and RETRY", ABORT, checked(true, false, true));
        due("ABORT alone", ABORT, checked(true, false, false));
        due("ABSTAIN and RETRY", ABSTAIN, checked(false, true, true));
        due("ABSTAIN alone", ABSTAIN, checked(false, true, false));
        due("RETRY alone", RETRY, checked(false, false, true));
        due("none", OK, checked(false, false, false));
    }

    /** Client 0 reads (or else writes) four keys, this one last, and is proposed with time 10. */
    private static void proposeFour(TapirGroup g, boolean reads, int last) {
        g.begin(0);
        for (int i = 3; i >= 0; i--) {
            int key = (last + i) % 6;
            if (reads) {
                g.read(0, key, 0);
            } else {
                g.write(0, key, i);
            }
        }
        g.propose(0, 10);
    }

    private static void theFourthOfFour() {
        for (int key = 0; key < 6; key++) {
            TapirGroup abort = new TapirGroup();
            proposeFour(abort, true, key);
            commitWrite(abort, 1, key, 5, 9, 0);
            due("a greater version of key " + key, ABORT, abort.prepare(0, 0));
            due("a prepared write of key " + key, ABSTAIN, abort.prepare(0, 1));
            TapirGroup version = new TapirGroup();
            commitWrite(version, 1, key, 5, 11, 0);
            proposeFour(version, false, key);
            due("a write under a greater version of key " + key, RETRY, version.prepare(0, 0));
            TapirGroup read = new TapirGroup();
            commitRead(read, 1, key, 11, 0);
            proposeFour(read, false, key);
            due("a write under an applied read of key " + key, RETRY, read.prepare(0, 0));
            due("a write under a prepared read of key " + key, RETRY, read.prepare(0, 1));
            TapirGroup free = new TapirGroup();
            commitWrite(free, 1, (key + 4) % 6, 5, 11, 0);
            commitRead(free, 2, (key + 5) % 6, 11, 0);
            proposeFour(free, false, key);
            due("four writes beside two other keys", OK, free.prepare(0, 0));
        }
    }
}
