/** Promise 2: begin. */
final class BeginTest extends Scenes {
    public static void main(String[] args) {
        numbersGoUpOverAllClients();
        aClientHasOneUntilItEnds();
        noMoreThanSixty();
        aNewOneStartsClean();
        close();
    }

    private static void numbersGoUpOverAllClients() {
        TapirGroup g = new TapirGroup();
        int[] order = {2, 0, 3, 1};
        for (int i = 0; i < 4; i++) {
            due("begin(" + order[i] + ")", i + 1, g.begin(order[i]));
            due("client(.., 0)", RUNNING, g.client(order[i], 0));
            due("client(.., 1)", i + 1, g.client(order[i], 1));
            due("state(1)", i + 1, g.state(1));
            for (int r = 0; r < 3; r++) {
                due("record(" + r + ", " + (i + 1) + ") of a running one", -1, g.record(r, i + 1));
            }
        }
        g.change();
        due("record(1, 2) of a running one behind a change", -1, g.record(1, 2));
        for (int c : NO_INDEX) {
            refused("begin(" + c + ")", ARGUMENT, () -> g.begin(c));
        }
        refused("begin(4)", ARGUMENT, () -> g.begin(4));
    }

    private static void aClientHasOneUntilItEnds() {
        TapirGroup g = new TapirGroup();
        g.begin(1);
        refused("begin(1) when running", STATE, () -> g.begin(1));
        g.propose(1, 1);
        refused("begin(1) when proposed", STATE, () -> g.begin(1));
        decideToCommit(g, 1);
        refused("begin(1) when decided", STATE, () -> g.begin(1));
        g.end(1);
        due("begin(1) when ended", 2, g.begin(1));

        TapirGroup slow = answered(OK, OK, NOT_ASKED);
        slow.decide(0);
        refused("begin(0) when slow", STATE, () -> slow.begin(0));
    }

    private static void noMoreThanSixty() {
        TapirGroup g = new TapirGroup();
        for (int number = 1; number <= 60; number++) {
            int client = number % 4;
            due("begin(" + client + ")", number, g.begin(client));
            g.propose(client, number);
            decideToCommit(g, client);
            g.end(client);
        }
        refused("begin(0) behind 60", STATE, () -> g.begin(0));
        refused("begin(4) behind 60", ARGUMENT, () -> g.begin(4));
        due("state(1)", 60, g.state(1));
        due("record(0, 60)", OK, g.record(0, 60));
    }

    private static void aNewOneStartsClean() {
        TapirGroup g = answered(OK, OK, ABSTAIN);
        g.decide(0);
        g.confirm(0, 0);
        g.confirm(0, 1);
        g.end(0);
        g.begin(0);
        int[] want = {RUNNING, 4, 0, 0, 0, 0, 0, -1};
        for (int what = 0; what < 8; what++) {
            due("client(0, " + what + ") behind begin", want[what], g.client(0, what));
        }
    }
}
