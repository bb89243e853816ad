/** Promise 12: change, with the change of view of 'Terms'. */
final class ChangeTest extends Scenes {
    public static void main(String[] args) {
        views();
        mergedResults();
        mergedResultsOfTwo();
        aFinalRecordWins();
        aFinalRecordOfAnOldViewDoesNot();
        appliedAtSome();
        droppedAtSome();
        everyTransactionIsMerged();
        versionsAndReads();
        theOneThatIsDown();
        whatClientsHaveStays();
        close();
    }

    private static void views() {
        TapirGroup g = new TapirGroup();
        due("change", 1, g.change());
        due("change", 2, g.change());
        g.power(0, false);
        due("change of two", 3, g.change());
        due("the group's view", 3, g.state(0));
        due("state(2)", 2, g.state(2));
        due("state(3)", 3, g.state(3));
        due("state(4)", 3, g.state(4));
        g.power(1, false);
        g.power(0, true);
        due("change of an old view and a new one", 4, g.change());
        due("state(2)", 4, g.state(2));
        due("state(3)", 3, g.state(3));
        due("state(4)", 4, g.state(4));
    }

    /** Such records at the replicas (-1: none), none of them final, become this one. */
    private static void merged(int want, int... records) {
        TapirGroup g = answered(records);
        String what = " of " + records[0] + " " + records[1] + " " + records[2];
        g.change();
        for (int r = 0; r < 3; r++) {
            due("record at " + r + " by a change" + what, want | FINAL, g.record(r, SUBJECT));
        }
    }

    private static void mergedResults() {
        merged(OK, OK, OK, OK);
        merged(ABORT, OK, OK, NOT_ASKED);
        merged(ABORT, OK, NOT_ASKED, NOT_ASKED);
        merged(ABORT, NOT_ASKED, NOT_ASKED, OK);
        merged(ABORT, OK, ABSTAIN, OK);
        merged(ABORT, RETRY, OK, OK);
        merged(ABORT, OK, OK, ABORT);
        merged(ABORT, OK, RETRY, ABSTAIN);
        merged(ABORT, RETRY, NOT_ASKED, NOT_ASKED);
        merged(ABORT, NOT_ASKED, ABSTAIN, NOT_ASKED);
        merged(ABORT, RETRY, ABSTAIN, NOT_ASKED);
        merged(ABSTAIN, ABSTAIN, ABSTAIN, OK);
        merged(ABSTAIN, NOT_ASKED, ABSTAIN, ABSTAIN);
        merged(ABSTAIN, ABSTAIN, RETRY, ABSTAIN);
        merged(ABSTAIN, ABSTAIN, ABSTAIN, ABSTAIN);
        merged(RETRY, RETRY, OK, RETRY);
        merged(RETRY, RETRY, RETRY, NOT_ASKED);
        merged(RETRY, RETRY, RETRY, ABORT);
        merged(RETRY, RETRY, RETRY, RETRY);
        merged(ABORT, ABORT, OK, ABORT);
    }

    private static void mergedResultsOfTwo() {
        TapirGroup ok = answered(OK, OK, ABORT);
        ok.power(2, false);
        ok.change();
        due("record at 0", OK | FINAL, ok.record(0, SUBJECT));
        due("record at 1", OK | FINAL, ok.record(1, SUBJECT));
        due("record at 2", ABORT, ok.record(2, SUBJECT));
        TapirGroup one = answered(OK, RETRY, RETRY);
        one.power(1, false);
        one.change();
        due("record at 0 of OK and RETRY", ABORT | FINAL, one.record(0, SUBJECT));
        due("record at 2 of OK and RETRY", ABORT | FINAL, one.record(2, SUBJECT));
        TapirGroup same = answered(OK, RETRY, RETRY);
        same.power(0, false);
        same.change();
        due("record at 2 of RETRY twice", RETRY | FINAL, same.record(2, SUBJECT));
        TapirGroup away = answered(OK, NOT_ASKED, NOT_ASKED);
        away.power(0, false);
        away.change();
        due("no record where none of them has one", -1, away.record(1, SUBJECT));
        due("the record of the one that is down", OK, away.record(0, SUBJECT));
    }

    private static void aFinalRecordWins() {
        TapirGroup g = answered(ABSTAIN, OK, OK);
        g.decide(0);
        g.confirm(0, 2);
        g.change();
        for (int r = 0; r < 3; r++) {
            due("record at " + r, OK | FINAL, g.record(r, SUBJECT));
        }
        TapirGroup retries = answered(RETRY, RETRY, ABORT);
        retries.decide(0);
        retries.confirm(0, 2);
        retries.change();
        due("a final one before two alike", ABORT | FINAL, retries.record(0, SUBJECT));
        TapirGroup made = answered(OK, OK, NOT_ASKED);
        made.decide(0);
        made.confirm(0, 0);
        made.change();
        due("a record that is made", OK | FINAL, made.record(2, SUBJECT));
    }

    private static void aFinalRecordOfAnOldViewDoesNot() {
        TapirGroup g = answered(OK, OK, NOT_ASKED);
        g.decide(0);
        g.confirm(0, 0);
        g.power(0, false);
        g.change();
        due("record at 2 of OK and none", ABORT | FINAL, g.record(2, SUBJECT));
        g.power(0, true);
        g.change();
        due("record at 0 by a later view", ABORT | FINAL, g.record(0, SUBJECT));
        due("record at 1", ABORT | FINAL, g.record(1, SUBJECT));
    }

    private static void appliedAtSome() {
        TapirGroup g = answered(OK, OK, RETRY);
        g.decide(0);
        g.confirm(0, 0);
        g.confirm(0, 1);
        g.finish(0, 0);
        g.change();
        due("record at 0", OK | FINAL | APPLIED, g.record(0, SUBJECT));
        due("record at 1", OK | FINAL | APPLIED, g.record(1, SUBJECT));
        due("record at 2 keeps its result", RETRY | APPLIED, g.record(2, SUBJECT));
        due("version", 40, g.at(2, 1, 0));
        due("value", 5, g.at(2, 1, 1));
        due("read by", 40, g.at(2, 0, 2));
        TapirGroup made = answered(OK, OK, NOT_ASKED);
        made.decide(0);
        made.confirm(0, 0);
        made.confirm(0, 1);
        made.finish(0, 1);
        made.change();
        due("a record that is made", OK | APPLIED, made.record(2, SUBJECT));
    }

    private static void droppedAtSome() {
        TapirGroup g = answered(OK, ABSTAIN, NOT_ASKED);
        g.decide(0);
        g.confirm(0, 1);
        g.confirm(0, 2);
        g.finish(0, 1);
        g.change();
        due("record at 0 keeps its result", OK | DROPPED, g.record(0, SUBJECT));
        due("record at 1", ABORT | FINAL | DROPPED, g.record(1, SUBJECT));
        due("record at 2", ABORT | FINAL | DROPPED, g.record(2, SUBJECT));
        due("version", 0, g.at(0, 1, 0));
        due("read by", 0, g.at(0, 0, 2));
        TapirGroup made = answered(OK, ABSTAIN, NOT_ASKED);
        made.decide(0);
        made.confirm(0, 0);
        made.confirm(0, 1);
        made.finish(0, 0);
        made.change();
        due("a record that is made", ABORT | DROPPED, made.record(2, SUBJECT));
    }

    private static void everyTransactionIsMerged() {
        TapirGroup g = new TapirGroup();
        commitWrite(g, 0, 0, 1, 1, 2);
        for (int c = 0; c < 4; c++) {
            proposeWrite(g, c, c, 1, 10);
            g.prepare(c, 0);
            g.prepare(c, 1);
        }
        g.prepare(3, 2);
        g.change();
        int[] want = {OK | APPLIED, ABORT | FINAL, ABORT | FINAL, ABORT | FINAL, OK | FINAL};
        for (int r = 0; r < 3; r++) {
            for (int i = 0; i < want.length; i++) {
                due("record(" + r + ", " + (i + 1) + ")", want[i], g.record(r, i + 1));
            }
        }
    }

    private static void versionsAndReads() {
        TapirGroup g = new TapirGroup();
        commitWrite(g, 0, 0, 100, 10, 0);
        commitWrite(g, 0, 1, 7, 11, 2);
        commitWrite(g, 0, 0, -3, 12, 1);
        commitRead(g, 0, 4, 13, 0);
        commitRead(g, 0, 4, 14, 2);
        g.change();
        for (int r = 0; r < 3; r++) {
            due("at(" + r + ", 0, 0)", 48, g.at(r, 0, 0));
            due("at(" + r + ", 0, 1), of the greatest version", -3, g.at(r, 0, 1));
            due("at(" + r + ", 1, 0)", 44, g.at(r, 1, 0));
            due("at(" + r + ", 1, 1)", 7, g.at(r, 1, 1));
            due("at(" + r + ", 4, 2)", 56, g.at(r, 4, 2));
            due("at(" + r + ", 5, 0)", 0, g.at(r, 5, 0));
        }
    }

    private static void theOneThatIsDown() {
        TapirGroup g = new TapirGroup();
        commitWrite(g, 0, 0, 100, 10, 0);
        commitWrite(g, 0, 1, 7, 11, 1);
        commitRead(g, 0, 4, 14, 0);
        commitRead(g, 0, 5, 15, 1);
        g.power(0, false);
        g.change();
        due("it gets no version", 0, g.at(0, 1, 0));
        due("it gets no read", 0, g.at(0, 5, 2));
        due("it gets no mark", OK, g.record(0, 2));
        due("it gives no version", 0, g.at(2, 0, 0));
        due("it gives no value", 0, g.at(2, 0, 1));
        due("it gives no read", 0, g.at(2, 4, 2));
        due("it gives no mark", OK | FINAL, g.record(2, 1));
        due("the others share", 44, g.at(2, 1, 0));
        g.power(0, true);
        g.change();
        due("up again, it gets the version", 44, g.at(0, 1, 0));
        due("up again, it gives its version", 40, g.at(2, 0, 0));
        due("up again, it gives its mark", OK | FINAL | APPLIED, g.record(2, 1));
    }

    private static void whatClientsHaveStays() {
        TapirGroup g = answered(OK, OK, RETRY);
        g.decide(0);
        g.confirm(0, 1);
        g.begin(2);
        g.read(2, 3, 0);
        g.write(2, 3, 4);
        String before = clientsOf(g);
        g.change();
        due("what clients have", before, clientsOf(g));
        due("a running one goes on", 4, g.read(2, 3, 0));
    }

    private static String clientsOf(TapirGroup g) {
        StringBuilder text = new StringBuilder();
        for (int c = 0; c < 4; c++) {
            for (int what = 0; what < 8; what++) {
                text.append(g.client(c, what)).append(' ');
            }
        }
        return text.toString();
    }
}
