/** Promise 5: propose. */
final class ProposeTest extends Scenes {
    public static void main(String[] args) {
        forgetsAnswersAndRecords();
        forgetsRecordsOfEveryKind();
        readsAndWritesStay();
        close();
    }

    private static void forgetsAnswersAndRecords() {
        TapirGroup g = answered(RETRY, OK, ABSTAIN);
        due("answers", 3, g.client(0, 5));
        g.power(1, false);
        g.propose(0, 60);
        due("answers behind propose", 0, g.client(0, 5));
        due("confirmations behind propose", 0, g.client(0, 6));
        for (int r = 0; r < 3; r++) {
            due("record at " + r + " behind propose", -1, g.record(r, SUBJECT));
        }
        due("another's record stays", OK, g.record(0, 3));
        refused("decide without answers", STATE, () -> g.decide(0));
        due("a later check", OK, g.prepare(0, 0));
    }

    private static void forgetsRecordsOfEveryKind() {
        TapirGroup g = answered(OK, OK, ABSTAIN);
        g.change();
        due("record at 2 behind a change", ABORT | FINAL, g.record(2, SUBJECT));
        g.power(2, false);
        g.propose(0, 60);
        for (int r = 0; r < 3; r++) {
            due("record at " + r + " behind propose", -1, g.record(r, SUBJECT));
        }
        g.power(2, true);
        due("a later check", ABORT, g.prepare(1, 2));
        g.propose(1, 70);
        due("a check without the forgotten one", OK, g.prepare(1, 2));
    }

    private static void readsAndWritesStay() {
        TapirGroup g = answered(OK, OK, NOT_ASKED);
        g.propose(0, 60);
        due("reads", 1, g.client(0, 3));
        due("writes", 1, g.client(0, 4));
        decideToCommit(g, 0);
        g.finish(0, 2);
        due("at(2, 1, 0)", 240, g.at(2, 1, 0));
        due("at(2, 1, 1)", 5, g.at(2, 1, 1));
        due("at(2, 0, 2)", 240, g.at(2, 0, 2));
    }
}
