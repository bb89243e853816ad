/** Promises 13 to 16, client, at, record and state: each sentence that names a boundary case. */
final class QueriesEdgesTest extends Edges {
    private static final int[] NO_WHAT_OF_CLIENT = {-1, 8, Integer.MIN_VALUE, Integer.MAX_VALUE};
    private static final int[] NO_WHAT_OF_KEY = {-1, 3, Integer.MIN_VALUE, Integer.MAX_VALUE};

    public static void main(String[] args) {
        sentence("-1 when there is no such client or what", QueriesEdgesTest::noSuchClientOrWhat);
        sentence("without a transaction 0 (7: -1)", QueriesEdgesTest::withoutATransaction);
        sentence("2 its timestamp (0: none)", QueriesEdgesTest::timestamps);
        sentence("3 reads, 4 writes", QueriesEdgesTest::noneToFour);
        sentence("5 answers, 6 confirmations (both 0 behind propose())", QueriesEdgesTest::answersAndConfirmations);
        sentence("7 the result when slow (STATE 3; -1 else)", QueriesEdgesTest::resultWhenSlow);
        sentence("-1 when there is none such", QueriesEdgesTest::noneSuchAt);
        sentence("0 version, 1 value, 2 the greatest timestamp that read it", QueriesEdgesTest::firstAndLastAt);
        sentence("-1 without", QueriesEdgesTest::withoutARecord);
        sentence("its result, and 4 when it is final, 8 when it was applied, 16 when it was dropped",
            QueriesEdgesTest::everyRecord);
        sentence("-1 for others", QueriesEdgesTest::otherStates);
        sentence("2 to 4 the replicas' views, 5 to 7 whether they are up", QueriesEdgesTest::eachReplica);
        sentence("Nothing is promised beyond the answers and state changes described above",
            QueriesEdgesTest::changeNothing);
        close();
    }

    private static void noSuchClientOrWhat() {
        for (int state : ALL_STATES) {
            TapirGroup g = inState(state);
            for (int no : NO_CLIENT) {
                for (int what = -1; what <= 8; what++) {
                    due("client(" + no + ", " + what + ")", -1, g.client(no, what));
                }
            }
            for (int no : NO_WHAT_OF_CLIENT) {
                for (int c = 0; c < 4; c++) {
                    due("client(" + c + ", " + no + ") in STATE " + state, -1, g.client(c, no));
                }
            }
        }
    }

    private static void withoutATransaction() {
        for (int c = 0; c < 4; c++) {
            TapirGroup g = new TapirGroup();
            none(g, c);
            proposeWrite(g, c, 0, 1, 1);
            g.prepare(c, 0);
            g.prepare(c, 1);
            g.decide(c);
            g.confirm(c, 0);
            g.confirm(c, 1);
            due("number", 1, g.client(c, 1));
            g.end(c);
            none(g, c);
        }
    }

    private static void none(TapirGroup g, int c) {
        for (int what = 0; what < 8; what++) {
            due("client(" + c + ", " + what + ") without a transaction", what == 7 ? -1 : 0, g.client(c, what));
        }
    }

    private static void timestamps() {
        for (int state : ALL_STATES) {
            boolean proposed = state >= PROPOSED;
            due("client(0, 2) in STATE " + state, proposed ? 40 : 0, inState(state).client(0, 2));
        }
        TapirGroup g = inState(RUNNING);
        g.propose(0, LAST_TIME);
        due("client(0, 2) of the last time", 4000000, g.client(0, 2));
    }

    private static void noneToFour() {
        TapirGroup g = new TapirGroup();
        g.begin(3);
        for (int count = 0; count <= 4; count++) {
            due("reads", count, g.client(3, 3));
            due("writes", count, g.client(3, 4));
            if (count < 4) {
                g.read(3, 5 - count, 0);
                g.write(3, 5 - count, 1);
            }
        }
    }

    private static void answersAndConfirmations() {
        TapirGroup g = inState(RUNNING);
        due("answers when running", 0, g.client(0, 5));
        g.propose(0, 10);
        for (int count = 0; count <= 3; count++) {
            due("answers", count, g.client(0, 5));
            if (count < 3) {
                g.prepare(0, count);
            }
        }
        g.propose(0, 11);
        due("answers behind propose", 0, g.client(0, 5));
        due("confirmations behind propose", 0, g.client(0, 6));
        TapirGroup slow = inState(SLOW);
        for (int count = 0; count <= 2; count++) {
            due("confirmations", count, slow.client(0, 6));
            due("answers", 2, slow.client(0, 5));
            if (count < 2) {
                slow.confirm(0, count);
            }
        }
        slow.end(0);
        slow.begin(0);
        slow.propose(0, 11);
        due("answers of the next one", 0, slow.client(0, 5));
        due("confirmations of the next one", 0, slow.client(0, 6));
    }

    private static void resultWhenSlow() {
        for (int state : ALL_STATES) {
            due("client(0, 7) in STATE " + state, state == SLOW ? OK : -1, inState(state).client(0, 7));
        }
        TapirGroup g = answered(OK, ABSTAIN, NOT_ASKED);
        due("client(0, 7) when proposed", -1, g.client(0, 7));
        g.decide(0);
        due("client(0, 7) when slow", ABORT, g.client(0, 7));
        g.confirm(0, 0);
        due("client(0, 7) when confirmed once", ABORT, g.client(0, 7));
        g.confirm(0, 1);
        due("client(0, 7) when decided", -1, g.client(0, 7));
    }

    private static void noneSuchAt() {
        TapirGroup g = inState(RUNNING);
        for (int no : NO_REPLICA) {
            due("at(" + no + ", 0, 0)", -1, g.at(no, 0, 0));
            due("at(" + no + ", 5, 2)", -1, g.at(no, 5, 2));
        }
        for (int no : NO_KEY) {
            due("at(0, " + no + ", 0)", -1, g.at(0, no, 0));
            due("at(2, " + no + ", 2)", -1, g.at(2, no, 2));
        }
        for (int no : NO_WHAT_OF_KEY) {
            due("at(0, 0, " + no + ")", -1, g.at(0, 0, no));
            due("at(2, 5, " + no + ")", -1, g.at(2, 5, no));
        }
        due("at(3, 6, 3)", -1, g.at(3, 6, 3));
    }

    private static void firstAndLastAt() {
        for (int r = 0; r < 3; r++) {
            for (int key = 0; key < 6; key++) {
                TapirGroup g = new TapirGroup();
                g.begin(2);
                g.read(2, key, 0);
                g.write(2, key, 9);
                g.propose(2, 3);
                decideToCommit(g, 2);
                int[] want = {14, 9, 14};
                for (int what = 0; what < 3; what++) {
                    due("at(" + r + ", " + key + ", " + what + ") at first", 0, g.at(r, key, what));
                }
                g.finish(2, r);
                for (int what = 0; what < 3; what++) {
                    due("at(" + r + ", " + key + ", " + what + ")", want[what], g.at(r, key, what));
                    due("at another replica", 0, g.at((r + 1) % 3, key, what));
                    due("at another key", 0, g.at(r, (key + 1) % 6, what));
                }
                g.power(r, false);
                due("at one that is down", 14, g.at(r, key, 0));
            }
        }
    }

    private static void withoutARecord() {
        TapirGroup none = new TapirGroup();
        due("record(0, 1) before any began", -1, none.record(0, 1));
        TapirGroup g = inState(PROPOSED);
        due("record where it is not prepared", -1, g.record(2, MINE));
        due("record where it is prepared", OK, g.record(1, MINE));
        for (int no : new int[] {0, -1, MINE + 1, 60, 61, Integer.MIN_VALUE, Integer.MAX_VALUE}) {
            for (int r = 0; r < 3; r++) {
                due("record(" + r + ", " + no + ")", -1, g.record(r, no));
            }
        }
        for (int no : NO_REPLICA) {
            due("record(" + no + ", 1)", -1, g.record(no, 1));
            due("record(" + no + ", 0)", -1, g.record(no, 0));
            due("record(" + no + ", 61)", -1, g.record(no, 61));
        }
    }

    private static void everyRecord() {
        for (int result = OK; result <= RETRY; result++) {
            due("a result", result, answered(result, result, result).record(0, SUBJECT));
            TapirGroup merged = answered(result, result, result);
            merged.change();
            due("a result, final", result + 4, merged.record(2, SUBJECT));
        }
        TapirGroup applied = inState(TO_COMMIT);
        applied.finish(0, 0);
        due("OK, applied", 8, applied.record(0, MINE));
        TapirGroup both = inState(SLOW);
        both.confirm(0, 0);
        both.confirm(0, 2);
        both.finish(0, 0);
        due("OK, final, applied", 12, both.record(0, MINE));
        TapirGroup dropped = inState(TO_ABORT);
        dropped.finish(0, 0);
        due("ABORT, dropped", 18, dropped.record(0, MINE));
        TapirGroup abort = answered(ABORT, RETRY, ABSTAIN);
        abort.decide(0);
        abort.confirm(0, 0);
        abort.confirm(0, 2);
        for (int r = 0; r < 3; r++) {
            abort.finish(0, r);
        }
        due("ABORT, final, dropped", 22, abort.record(0, SUBJECT));
        due("RETRY, dropped", 19, abort.record(1, SUBJECT));
    }

    private static void otherStates() {
        for (TapirGroup g : new TapirGroup[] {new TapirGroup(), withAnOldView(SLOW)}) {
            for (int no : NO_WHAT_OF_CLIENT) {
                due("state(" + no + ")", -1, g.state(no));
            }
            due("state(9)", -1, g.state(9));
        }
    }

    private static void eachReplica() {
        for (int down = 0; down < 3; down++) {
            TapirGroup g = new TapirGroup();
            g.power(down, false);
            g.change();
            g.change();
            for (int r = 0; r < 3; r++) {
                due("view of " + r, r == down ? 0 : 2, g.state(2 + r));
                due("whether " + r + " is up", r == down ? 0 : 1, g.state(5 + r));
            }
            due("the group's view", 2, g.state(0));
            for (int r = 0; r < 3; r++) {
                g.power(r, false);
            }
            due("the group's view when all are down", 2, g.state(0));
            due("transactions", 0, g.state(1));
        }
    }

    private static void changeNothing() {
        int[] some = {-1, 0, 2, 3, 8, 61, Integer.MIN_VALUE, Integer.MAX_VALUE};
        for (int state : ALL_STATES) {
            TapirGroup g = inState(state);
            for (int one : some) {
                g.state(one);
                for (int other : some) {
                    g.client(one, other);
                    g.at(one, other, 0);
                    g.at(0, one, other);
                    g.record(one, other);
                }
            }
            due("what is seen behind queries", seen(inState(state)), seen(g));
        }
    }
}
