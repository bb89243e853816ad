/** Promise 5, propose: each sentence that names a boundary case. */
final class ProposeEdgesTest extends Edges {
    public static void main(String[] args) {
        sentence("a time (1 to 1,000,000): its timestamp is 4 times that and the client",
            ProposeEdgesTest::firstAndLastTime);
        sentence("since propose() a TIMESTAMP", ProposeEdgesTest::noneBefore);
        sentence("A running transaction, or a proposed one", ProposeEdgesTest::nothingReadOrWritten);
        sentence("All answers that it had are forgotten", ProposeEdgesTest::noAnswers);
        sentence("and records of it at all replicas (of whatever kind", ProposeEdgesTest::recordsOfEveryKind);
        sentence("also those that are down", ProposeEdgesTest::recordsOfThoseThatAreDown);
        sentence("reads and writes stay", ProposeEdgesTest::readsAndWritesStay);
        sentence("no such client or time", ProposeEdgesTest::noSuchArgument);
        sentence("it is neither", ProposeEdgesTest::neither);
        sentence("the client proposed with that time or a later one before", ProposeEdgesTest::timesOfThisOne);
        sentence("(this transaction or another one)", ProposeEdgesTest::timesOfAnotherOne);
        sentence("(this transaction or another one)", ProposeEdgesTest::theLastTimeIsUsed);
        sentence("The first of these", ProposeEdgesTest::order);
        close();
    }

    private static void firstAndLastTime() {
        for (int c = 0; c < 4; c++) {
            TapirGroup g = new TapirGroup();
            g.begin(c);
            g.propose(c, 1);
            due("timestamp of the first time, client " + c, 4 + c, g.client(c, 2));
            g.propose(c, 2);
            due("timestamp of the second time, client " + c, 8 + c, g.client(c, 2));
            g.propose(c, LAST_TIME - 1);
            due("timestamp of the last time but one, client " + c, 3999996 + c, g.client(c, 2));
            g.propose(c, LAST_TIME);
            due("timestamp of the last time, client " + c, 4000000 + c, g.client(c, 2));
            due("STATE", PROPOSED, g.client(c, 0));
        }
    }

    private static void noneBefore() {
        due("timestamp when running", 0, inState(RUNNING).client(0, 2));
        due("timestamp when proposed", 40, inState(PROPOSED).client(0, 2));
        TapirGroup g = inState(ENDED);
        g.begin(0);
        due("timestamp of the next one when running", 0, g.client(0, 2));
    }

    private static void nothingReadOrWritten() {
        TapirGroup g = new TapirGroup();
        g.begin(2);
        g.propose(2, 1);
        decideToCommit(g, 2);
        for (int r = 0; r < 3; r++) {
            due("finish at " + r, true, g.finish(2, r));
            for (int key = 0; key < 6; key++) {
                for (int what = 0; what < 3; what++) {
                    due("at(" + r + ", " + key + ", " + what + ")", 0, g.at(r, key, what));
                }
            }
        }
    }

    private static void noAnswers() {
        TapirGroup g = inState(PROPOSED);
        due("answers", 2, g.client(0, 5));
        g.propose(0, 11);
        due("answers behind propose", 0, g.client(0, 5));
        refused("decide behind propose", STATE, () -> g.decide(0));
        g.prepare(0, 2);
        due("answers behind one", 1, g.client(0, 5));
        refused("decide behind one answer", STATE, () -> g.decide(0));
        due("confirmations", 0, g.client(0, 6));
    }

    private static void recordsOfEveryKind() {
        int[][] kinds = {{OK, OK, OK}, {ABSTAIN, ABSTAIN, ABSTAIN}, {ABORT, ABORT, ABORT}, {RETRY, RETRY, RETRY},
            {OK, ABSTAIN, RETRY}, {NOT_ASKED, OK, NOT_ASKED}};
        for (int[] kind : kinds) {
            TapirGroup plain = answered(kind);
            plain.propose(0, 60);
            noRecords(plain, "of a check");
            TapirGroup merged = answered(kind);
            merged.change();
            due("record of a change is final", true, (merged.record(2, SUBJECT) & FINAL) != 0);
            merged.propose(0, 60);
            noRecords(merged, "of a change");
        }
    }

    private static void recordsOfThoseThatAreDown() {
        TapirGroup g = answered(OK, RETRY, ABSTAIN);
        for (int r = 0; r < 3; r++) {
            g.power(r, false);
        }
        g.propose(0, 60);
        noRecords(g, "when all are down");
        TapirGroup old = answered(OK, RETRY, ABSTAIN);
        old.power(1, false);
        old.change();
        old.power(1, true);
        old.propose(0, 60);
        noRecords(old, "of an old view");
    }

    private static void noRecords(TapirGroup g, String kind) {
        for (int r = 0; r < 3; r++) {
            due("record at " + r + " " + kind, -1, g.record(r, SUBJECT));
        }
    }

    private static void readsAndWritesStay() {
        TapirGroup g = inState(PROPOSED);
        commitWrite(g, 1, 1, 9, 20, 0, 1, 2);
        g.propose(0, 30);
        due("reads", 2, g.client(0, 3));
        due("writes", 1, g.client(0, 4));
        due("the version that was seen stays", ABORT, g.prepare(0, 0));
    }

    private static void noSuchArgument() {
        for (int no : NO_CLIENT) {
            refusedIn(() -> inState(RUNNING), "propose(" + no + ", 1)", ARGUMENT, g -> g.propose(no, 1));
        }
        for (int no : NO_TIME) {
            refusedIn(() -> inState(RUNNING), "propose(0, " + no + ") when running", ARGUMENT, g -> g.propose(0, no));
            refusedIn(() -> inState(PROPOSED), "propose(0, " + no + ") when proposed", ARGUMENT,
                g -> g.propose(0, no));
        }
    }

    private static void neither() {
        refusedInStates(allStatesBut(RUNNING, PROPOSED), "propose(0, 100)", STATE, g -> g.propose(0, 100));
        refusedInStates(allStatesBut(RUNNING, PROPOSED), "propose(0, 1000000)", STATE,
            g -> g.propose(0, LAST_TIME));
        TapirGroup g = new TapirGroup();
        refused("propose(0, 1000000) without a transaction", STATE, () -> g.propose(0, LAST_TIME));
        g.begin(0);
        g.propose(0, 1);
        due("timestamp, a refused time is not used", 4, g.client(0, 2));
    }

    private static void timesOfThisOne() {
        for (int time : new int[] {1, 4, 9, 10}) {
            refusedIn(() -> inState(PROPOSED), "propose(0, " + time + ") behind 10", STATE, g -> g.propose(0, time));
        }
        TapirGroup g = inState(PROPOSED);
        refused("an early time", STATE, () -> g.propose(0, 5));
        refused("a time between", STATE, () -> g.propose(0, 9));
        g.propose(0, 11);
        due("timestamp of the next time", 44, g.client(0, 2));
        TapirGroup others = new TapirGroup();
        for (int c = 3; c >= 0; c--) {
            others.begin(c);
            others.propose(c, 7);
            due("the same time of client " + c, 28 + c, others.client(c, 2));
        }
    }

    private static void timesOfAnotherOne() {
        for (int state : new int[] {TO_COMMIT, TO_ABORT}) {
            TapirGroup g = inState(state);
            g.end(0);
            g.begin(0);
            refused("the time of the last one", STATE, () -> g.propose(0, 10));
            refused("a time before the last one's", STATE, () -> g.propose(0, 9));
            due("STATE behind a refused one", RUNNING, g.client(0, 0));
            due("timestamp behind a refused one", 0, g.client(0, 2));
            g.propose(0, 11);
            due("timestamp of the next time", 44, g.client(0, 2));
        }
    }

    private static void theLastTimeIsUsed() {
        TapirGroup g = inState(RUNNING);
        g.propose(0, LAST_TIME);
        refused("the last time again", STATE, () -> g.propose(0, LAST_TIME));
        refused("a time behind the last one", ARGUMENT, () -> g.propose(0, LAST_TIME + 1));
        decideToCommit(g, 0);
        g.end(0);
        g.begin(0);
        for (int time : new int[] {1, 11, LAST_TIME - 1, LAST_TIME}) {
            refused("time " + time + " when the last one is used", STATE, () -> g.propose(0, time));
        }
        due("STATE", RUNNING, g.client(0, 0));
        g.begin(1);
        g.propose(1, LAST_TIME);
        due("timestamp of another client", 4000001, g.client(1, 2));
    }

    private static void order() {
        for (int no : NO_TIME) {
            refusedIn(() -> inState(NEVER), "no such time, and no transaction", ARGUMENT, g -> g.propose(0, no));
            refusedIn(() -> inState(SLOW), "no such time, and slow", ARGUMENT, g -> g.propose(0, no));
        }
        TapirGroup g = inState(PROPOSED);
        refused("no such time, and earlier than the last", ARGUMENT, () -> g.propose(0, 0));
    }
}
