/** Promise 5: propose. */
final class ProposeTest extends Scenes {
    public static void main(String[] args) {
        theTimestamp();
        onlyWhenRunningOrProposed();
        onlyWithALaterTime();
        wrongArguments();
        forgetsAnswersAndRecords();
        forgetsRecordsOfEveryKind();
        readsAndWritesStay();
        close();
    }

    private static void theTimestamp() {
        TapirGroup g = new TapirGroup();
        for (int c = 0; c < 4; c++) {
            g.begin(c);
            g.propose(c, 1);
            due("client(" + c + ", 2)", 4 + c, g.client(c, 2));
            due("client(" + c + ", 0)", PROPOSED, g.client(c, 0));
            g.propose(c, 1000000);
            due("client(" + c + ", 2) behind the last time", 4000000 + c, g.client(c, 2));
        }
    }

    private static void onlyWhenRunningOrProposed() {
        TapirGroup g = answered(OK, OK, NOT_ASKED);
        refused("propose without a transaction", STATE,
            () -> new TapirGroup().propose(0, 1));
        g.decide(0);
        refused("propose when slow", STATE, () -> g.propose(0, 100));
        g.confirm(0, 0);
        g.confirm(0, 1);
        refused("propose when decided to commit", STATE, () -> g.propose(0, 100));
        g.end(0);
        refused("propose when ended", STATE, () -> g.propose(0, 100));

        TapirGroup aborts = answered(ABSTAIN, ABSTAIN, ABSTAIN);
        aborts.decide(0);
        refused("propose when decided to abort", STATE, () -> aborts.propose(0, 100));
    }

    private static void onlyWithALaterTime() {
        TapirGroup g = new TapirGroup();
        g.begin(0);
        g.begin(1);
        g.propose(0, 50);
        refused("the same time", STATE, () -> g.propose(0, 50));
        refused("an earlier time", STATE, () -> g.propose(0, 49));
        g.propose(1, 50);
        g.propose(0, 51);
        decideToCommit(g, 0);
        g.end(0);
        g.begin(0);
        refused("the same time, another transaction", STATE, () -> g.propose(0, 51));
        refused("an earlier time, another transaction", STATE, () -> g.propose(0, 1));
        g.propose(0, 52);
        due("client(0, 2)", 208, g.client(0, 2));
    }

    private static void wrongArguments() {
        TapirGroup g = new TapirGroup();
        g.begin(0);
        for (int no : NO_INDEX) {
            refused("propose of client " + no, ARGUMENT, () -> g.propose(no, 1));
            refused("propose with time " + no, ARGUMENT, () -> g.propose(0, no));
        }
        refused("propose of client 4", ARGUMENT, () -> g.propose(4, 1));
        refused("propose with time 0", ARGUMENT, () -> g.propose(0, 0));
        refused("propose with time 1000001", ARGUMENT, () -> g.propose(0, 1000001));
        refused("propose with time 0, no transaction", ARGUMENT, () -> g.propose(1, 0));
    }

    private static void forgetsAnswersAndRecords() {
        TapirGroup g = answered(RETRY, OK, ABSTAIN);
        due("answers", 3, g.client(0, 5));
        g.power(1, false);
        g.propose(0, 60);
        due("answers behind propose", 0, g.client(0, 5));
        due("confirmations behind propose", 0, g.client(0, 6));
        for (int r = 0; r < 3; r++) {
            due("record at " + r + " behind propose", -1, g.record(r, SUBJECT));
        }
        due("another's record stays", OK, g.record(0, 3));
        refused("decide without answers", STATE, () -> g.decide(0));
        due("a later check", OK, g.prepare(0, 0));
    }

    private static void forgetsRecordsOfEveryKind() {
        TapirGroup g = answered(OK, OK, ABSTAIN);
        g.change();
        due("record at 2 behind a change", ABORT | FINAL, g.record(2, SUBJECT));
        g.power(2, false);
        g.propose(0, 60);
        for (int r = 0; r < 3; r++) {
            due("record at " + r + " behind propose", -1, g.record(r, SUBJECT));
        }
        g.power(2, true);
        due("a later check", ABORT, g.prepare(1, 2));
        g.propose(1, 70);
        due("a check without the forgotten one", OK, g.prepare(1, 2));
    }

    private static void readsAndWritesStay() {
        TapirGroup g = answered(OK, OK, NOT_ASKED);
        g.propose(0, 60);
        due("reads", 1, g.client(0, 3));
        due("writes", 1, g.client(0, 4));
        decideToCommit(g, 0);
        g.finish(0, 2);
        due("at(2, 1, 0)", 240, g.at(2, 1, 0));
        due("at(2, 1, 1)", 5, g.at(2, 1, 1));
        due("at(2, 0, 2)", 240, g.at(2, 0, 2));
    }
}
