/** Promises 13 to 16: client, at, record and state. */
final class QueriesTest extends Scenes {
    public static void main(String[] args) {
        aClientOnItsWay();
        versionsValuesAndReads();
        records();
        states();
        close();
    }

    private static void clientIs(TapirGroup g, String when, int... want) {
        for (int what = 0; what < 8; what++) {
            due("client(1, " + what + ") " + when, want[what], g.client(1, what));
        }
    }

    private static void aClientOnItsWay() {
        TapirGroup g = new TapirGroup();
        g.begin(0);
        clientIs(g, "without a transaction", 0, 0, 0, 0, 0, 0, 0, -1);
        g.begin(1);
        clientIs(g, "when begun", RUNNING, 2, 0, 0, 0, 0, 0, -1);
        g.read(1, 0, 0);
        g.read(1, 1, 0);
        g.write(1, 2, 1);
        g.write(1, 3, 1);
        g.write(1, 4, 1);
        clientIs(g, "when running", RUNNING, 2, 0, 2, 3, 0, 0, -1);
        g.propose(1, 25);
        clientIs(g, "when proposed", PROPOSED, 2, 101, 2, 3, 0, 0, -1);
        g.prepare(1, 2);
        g.prepare(1, 0);
        clientIs(g, "when answered", PROPOSED, 2, 101, 2, 3, 2, 0, -1);
        g.decide(1);
        clientIs(g, "when slow", SLOW, 2, 101, 2, 3, 2, 0, OK);
        g.confirm(1, 1);
        clientIs(g, "when confirmed once", SLOW, 2, 101, 2, 3, 2, 1, OK);
        g.confirm(1, 2);
        clientIs(g, "when decided", TO_COMMIT, 2, 101, 2, 3, 2, 2, -1);
        g.end(1);
        clientIs(g, "when ended", 0, 0, 0, 0, 0, 0, 0, -1);
        TapirGroup aborts = answered(ABORT, ABORT, NOT_ASKED);
        aborts.decide(0);
        due("the slow result ABORT", ABORT, aborts.client(0, 7));
        aborts.confirm(0, 0);
        aborts.confirm(0, 1);
        due("STATE", TO_ABORT, aborts.client(0, 0));
    }

    private static void versionsValuesAndReads() {
        TapirGroup g = new TapirGroup();
        commitWrite(g, 0, 5, 3, 1, 2);
        commitRead(g, 1, 0, 2, 2);
        due("at(2, 5, 0)", 4, g.at(2, 5, 0));
        due("at(2, 5, 1)", 3, g.at(2, 5, 1));
        due("at(2, 0, 2)", 9, g.at(2, 0, 2));
        due("at(1, 5, 0), where it is not finished", 0, g.at(1, 5, 0));
    }

    private static void records() {
        TapirGroup g = answered(OK, ABSTAIN, RETRY);
        due("OK", 0, g.record(0, SUBJECT));
        due("ABSTAIN", 1, g.record(1, SUBJECT));
        due("RETRY", 3, g.record(2, SUBJECT));
        due("none where it was not prepared", -1, g.record(1, 3));
        g.propose(0, 60);
        g.prepare(0, 0);
        g.prepare(0, 1);
        due("decide", ABORT, g.decide(0));
        g.confirm(0, 0);
        g.confirm(0, 1);
        due("ABORT, final", 6, g.record(0, SUBJECT));
        g.finish(0, 0);
        due("ABORT, final, dropped", 22, g.record(0, SUBJECT));
        g.finish(0, 2);
        due("ABORT, dropped", 18, g.record(2, SUBJECT));
    }

    private static void states() {
        TapirGroup g = new TapirGroup();
        g.begin(0);
        g.begin(3);
        g.power(1, false);
        g.change();
        g.change();
        g.power(0, false);
        int[] want = {2, 2, 2, 0, 2, 0, 0, 1};
        for (int what = 0; what < 8; what++) {
            due("state(" + what + ")", want[what], g.state(what));
        }
    }
}
