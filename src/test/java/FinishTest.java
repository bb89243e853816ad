/** Promise 9: finish. */
final class FinishTest extends Scenes {
    public static void main(String[] args) {
        applied();
        onlyWhatIsGreater();
        dropped();
        madeRecords();
        recordsOfOtherResults();
        behindAChange();
        close();
    }

    private static void applied() {
        TapirGroup g = new TapirGroup();
        g.begin(3);
        g.read(3, 0, 0);
        g.read(3, 1, 0);
        g.write(3, 1, -4);
        g.write(3, 2, 8);
        g.propose(3, 10);
        decideToCommit(g, 3);
        due("finish", true, g.finish(3, 1));
        due("finish again", false, g.finish(3, 1));
        due("record(1, 1)", OK | APPLIED, g.record(1, 1));
        due("record(0, 1)", OK, g.record(0, 1));
        int[][] want = {{0, 0, 43}, {43, -4, 43}, {43, 8, 0}, {0, 0, 0}};
        for (int key = 0; key < 4; key++) {
            for (int what = 0; what < 3; what++) {
                due("at(1, " + key + ", " + what + ")", want[key][what], g.at(1, key, what));
                due("at(0, " + key + ", " + what + ")", 0, g.at(0, key, what));
            }
        }
        due("STATE", TO_COMMIT, g.client(3, 0));
    }

    private static void onlyWhatIsGreater() {
        TapirGroup g = new TapirGroup();
        g.begin(0);
        g.read(0, 0, 0);
        g.write(0, 1, 100);
        g.propose(0, 10);
        g.begin(1);
        g.read(1, 0, 0);
        g.write(1, 1, 50);
        g.propose(1, 20);
        decideToCommit(g, 0);
        decideToCommit(g, 1);
        g.finish(1, 0);
        due("finish of the older one", true, g.finish(0, 0));
        due("record", OK | APPLIED, g.record(0, 1));
        due("version", 81, g.at(0, 1, 0));
        due("value", 50, g.at(0, 1, 1));
        due("read by", 81, g.at(0, 0, 2));
        g.finish(0, 1);
        due("version of the older one", 40, g.at(1, 1, 0));
        g.finish(1, 1);
        due("version of the newer one", 81, g.at(1, 1, 0));
        due("value of the newer one", 50, g.at(1, 1, 1));
        due("read by the newer one", 81, g.at(1, 0, 2));
    }

    private static void dropped() {
        TapirGroup g = answered(ABSTAIN, ABSTAIN, ABSTAIN);
        g.decide(0);
        due("finish", true, g.finish(0, 2));
        due("finish again", false, g.finish(0, 2));
        due("record at 2", ABSTAIN | DROPPED, g.record(2, SUBJECT));
        for (int what = 0; what < 3; what++) {
            due("at(2, 1, " + what + ")", 0, g.at(2, 1, what));
            due("at(2, 0, " + what + ")", 0, g.at(2, 0, what));
        }
    }

    private static void madeRecords() {
        TapirGroup commits = answered(OK, OK, NOT_ASKED);
        commits.decide(0);
        commits.confirm(0, 0);
        commits.confirm(0, 1);
        due("finish", true, commits.finish(0, 2));
        due("a record made for an applied one", OK | APPLIED, commits.record(2, SUBJECT));
        commits.finish(0, 0);
        due("a final record of an applied one", OK | FINAL | APPLIED, commits.record(0, SUBJECT));
        TapirGroup aborts = answered(OK, ABSTAIN, NOT_ASKED);
        aborts.decide(0);
        aborts.confirm(0, 0);
        aborts.confirm(0, 1);
        due("finish", true, aborts.finish(0, 2));
        due("a record made for a dropped one", ABORT | DROPPED, aborts.record(2, SUBJECT));
        aborts.finish(0, 0);
        due("a final record of a dropped one", ABORT | FINAL | DROPPED, aborts.record(0, SUBJECT));
    }

    private static void recordsOfOtherResults() {
        TapirGroup commits = answered(OK, OK, RETRY);
        commits.decide(0);
        commits.confirm(0, 0);
        commits.confirm(0, 1);
        due("finish", true, commits.finish(0, 2));
        due("an applied one with RETRY", RETRY | APPLIED, commits.record(2, SUBJECT));
        due("it is applied", 40, commits.at(2, 1, 0));
        TapirGroup aborts = answered(OK, ABSTAIN, ABSTAIN);
        aborts.decide(0);
        aborts.confirm(0, 1);
        aborts.confirm(0, 2);
        due("finish", true, aborts.finish(0, 0));
        due("a dropped one with OK", OK | DROPPED, aborts.record(0, SUBJECT));
        due("it is not applied", 0, aborts.at(0, 1, 0));
    }

    private static void behindAChange() {
        TapirGroup g = answered(OK, OK, OK);
        g.decide(0);
        g.finish(0, 0);
        g.change();
        due("finish where a change applied it", false, g.finish(0, 1));
    }
}
