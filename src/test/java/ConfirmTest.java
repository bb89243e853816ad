/** Promise 8: confirm. */
final class ConfirmTest extends Scenes {
    public static void main(String[] args) {
        twoDecideToCommit();
        twoDecideToAbort();
        eachCountsOnce();
        aRecordOfAChangeConfirms();
        aFinalRecordOfAnotherResult();
        confirmationsStayBehindAChange();
        close();
    }

    private static TapirGroup slow(int... answers) {
        TapirGroup g = answered(answers);
        g.decide(0);
        due("STATE of the scene", SLOW, g.client(0, 0));
        due("confirmations of the scene", 0, g.client(0, 6));
        return g;
    }

    private static void twoDecideToCommit() {
        TapirGroup g = slow(OK, OK, ABSTAIN);
        due("the slow result", OK, g.client(0, 7));
        due("confirm at 2", 1, g.confirm(0, 2));
        due("record at 2, of another result before", OK | FINAL, g.record(2, SUBJECT));
        due("record at 0", OK, g.record(0, SUBJECT));
        due("STATE", SLOW, g.client(0, 0));
        due("confirmations", 1, g.client(0, 6));
        due("confirm at 0", 2, g.confirm(0, 0));
        due("record at 0", OK | FINAL, g.record(0, SUBJECT));
        due("record at 1", OK, g.record(1, SUBJECT));
        due("STATE", TO_COMMIT, g.client(0, 0));
        due("confirmations", 2, g.client(0, 6));
        due("the slow result of a decided one", -1, g.client(0, 7));
        due("answers stay", 3, g.client(0, 5));
    }

    private static void twoDecideToAbort() {
        TapirGroup g = slow(OK, ABSTAIN, NOT_ASKED);
        due("the slow result", ABORT, g.client(0, 7));
        due("confirm at 2", 1, g.confirm(0, 2));
        due("record at 2, made", ABORT | FINAL, g.record(2, SUBJECT));
        due("confirm at 1", 2, g.confirm(0, 1));
        due("record at 1", ABORT | FINAL, g.record(1, SUBJECT));
        due("STATE", TO_ABORT, g.client(0, 0));
    }

    private static void eachCountsOnce() {
        TapirGroup g = slow(OK, OK, NOT_ASKED);
        due("confirm at 1", 1, g.confirm(0, 1));
        due("confirm at 1 again", 1, g.confirm(0, 1));
        due("STATE", SLOW, g.client(0, 0));
        due("confirm at 2", 2, g.confirm(0, 2));
    }

    private static void aRecordOfAChangeConfirms() {
        TapirGroup g = slow(OK, ABSTAIN, NOT_ASKED);
        g.change();
        due("record at 0", ABORT | FINAL, g.record(0, SUBJECT));
        due("confirmations", 0, g.client(0, 6));
        due("confirm at 0", 1, g.confirm(0, 0));
        due("confirm at 2", 2, g.confirm(0, 2));
        due("STATE", TO_ABORT, g.client(0, 0));
    }

    private static void aFinalRecordOfAnotherResult() {
        TapirGroup g = slow(OK, OK, NOT_ASKED);
        g.change();
        for (int r = 0; r < 3; r++) {
            due("confirm at " + r, 0, g.confirm(0, r));
            due("record at " + r, ABORT | FINAL, g.record(r, SUBJECT));
        }
        due("STATE", SLOW, g.client(0, 0));
        due("the slow result", OK, g.client(0, 7));
    }

    private static void confirmationsStayBehindAChange() {
        TapirGroup g = slow(OK, OK, NOT_ASKED);
        due("confirm at 0", 1, g.confirm(0, 0));
        g.power(0, false);
        g.change();
        due("record at 1", ABORT | FINAL, g.record(1, SUBJECT));
        due("confirmations", 1, g.client(0, 6));
        due("confirm at 1", 1, g.confirm(0, 1));
        g.power(0, true);
        g.change();
        due("record at 0", ABORT | FINAL, g.record(0, SUBJECT));
        due("confirm at 0 again", 1, g.confirm(0, 0));
        due("STATE", SLOW, g.client(0, 0));
    }
}
