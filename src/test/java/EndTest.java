/** Promise 10: end. */
final class EndTest extends Scenes {
    public static void main(String[] args) {
        aDecidedOneEnds();
        anAbortedOneEnds();
        close();
    }

    private static void aDecidedOneEnds() {
        TapirGroup g = answered(OK, OK, OK);
        g.decide(0);
        g.finish(0, 1);
        g.end(0);
        for (int what = 0; what < 8; what++) {
            due("client(0, " + what + ")", what == 7 ? -1 : 0, g.client(0, what));
        }
        due("a record that is not finished", OK, g.record(0, SUBJECT));
        due("a record that is finished", OK | APPLIED, g.record(1, SUBJECT));
        due("transactions ever", 3, g.state(1));
        g.change();
        due("a change still applies it", OK | APPLIED, g.record(0, SUBJECT));
        due("version", 40, g.at(0, 1, 0));
    }

    private static void anAbortedOneEnds() {
        TapirGroup g = answered(ABSTAIN, ABSTAIN, ABSTAIN);
        g.decide(0);
        g.end(0);
        due("STATE", 0, g.client(0, 0));
        due("record", ABSTAIN, g.record(0, SUBJECT));
    }
}
