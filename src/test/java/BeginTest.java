/** Promise 2: begin. */
final class BeginTest extends Scenes {
    public static void main(String[] args) {
        numbersGoUpOverAllClients();
        aNewOneStartsClean();
        close();
    }

    private static void numbersGoUpOverAllClients() {
        TapirGroup g = new TapirGroup();
        int[] order = {2, 0, 3, 1};
        for (int i = 0; i < 4; i++) {
            due("begin(" + order[i] + ")", i + 1, g.begin(order[i]));
            due("client(.., 0)", RUNNING, g.client(order[i], 0));
            due("client(.., 1)", i + 1, g.client(order[i], 1));
            due("state(1)", i + 1, g.state(1));
            for (int r = 0; r < 3; r++) {
                due("record(" + r + ", " + (i + 1) + ") of a running one", -1, g.record(r, i + 1));
            }
        }
        g.change();
        due("record(1, 2) of a running one behind a change", -1, g.record(1, 2));
    }

    private static void aNewOneStartsClean() {
        TapirGroup g = answered(OK, OK, ABSTAIN);
        g.decide(0);
        g.confirm(0, 0);
        g.confirm(0, 1);
        g.end(0);
        g.begin(0);
        int[] want = {RUNNING, 4, 0, 0, 0, 0, 0, -1};
        for (int what = 0; what < 8; what++) {
            due("client(0, " + what + ") behind begin", want[what], g.client(0, what));
        }
    }
}
