/** Promise 10: end. */
final class EndTest extends Scenes {
    public static void main(String[] args) {
        aDecidedOneEnds();
        anAbortedOneEnds();
        refusals();
        close();
    }

    private static void aDecidedOneEnds() {
        TapirGroup g = answered(OK, OK, OK);
        g.decide(0);
        g.finish(0, 1);
        g.end(0);
        for (int what = 0; what < 8; what++) {
            due("client(0, " + what + ")", what == 7 ? -1 : 0, g.client(0, what));
        }
        due("a record that is not finished", OK, g.record(0, SUBJECT));
        due("a record that is finished", OK | APPLIED, g.record(1, SUBJECT));
        due("transactions ever", 3, g.state(1));
        g.change();
        due("a change still applies it", OK | APPLIED, g.record(0, SUBJECT));
        due("version", 40, g.at(0, 1, 0));
    }

    private static void anAbortedOneEnds() {
        TapirGroup g = answered(ABSTAIN, ABSTAIN, ABSTAIN);
        g.decide(0);
        g.end(0);
        due("STATE", 0, g.client(0, 0));
        due("record", ABSTAIN, g.record(0, SUBJECT));
    }

    private static void refusals() {
        TapirGroup g = answered(OK, OK, NOT_ASKED);
        for (int no : NO_INDEX) {
            refused("end of client " + no, ARGUMENT, () -> g.end(no));
        }
        refused("end of client 4", ARGUMENT, () -> g.end(4));
        refused("end when proposed", STATE, () -> g.end(0));
        g.decide(0);
        refused("end when slow", STATE, () -> g.end(0));
        g.confirm(0, 0);
        g.confirm(0, 1);
        g.end(0);
        refused("end again", STATE, () -> g.end(0));
        g.begin(0);
        refused("end when running", STATE, () -> g.end(0));
        refused("end without a transaction", STATE, () -> new TapirGroup().end(3));
    }
}
