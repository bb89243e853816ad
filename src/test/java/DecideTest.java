/** Promise 7: decide, with the rule to decide by answers. */
final class DecideTest extends Scenes {
    private static final int[][] ORDERS = {{0, 1, 2}, {0, 2, 1}, {1, 0, 2}, {1, 2, 0}, {2, 0, 1}, {2, 1, 0}};

    public static void main(String[] args) {
        threeAlike();
        threeNotAlike();
        two();
        retryLeavesItProposed();
        close();
    }

    private static void threeAlike() {
        row(OK, TO_COMMIT, OK, OK, OK);
        row(ABORT, TO_ABORT, ABORT, ABORT, ABORT);
        row(ABORT, TO_ABORT, ABSTAIN, ABSTAIN, ABSTAIN);
        row(RETRY, PROPOSED, RETRY, RETRY, RETRY);
    }

    private static void threeNotAlike() {
        row(OK, SLOW, OK, OK, ABSTAIN);
        row(ABORT, SLOW, OK, OK, ABORT);
        row(OK, SLOW, OK, OK, RETRY);
        row(ABORT, SLOW, OK, ABSTAIN, ABSTAIN);
        row(ABORT, SLOW, OK, ABSTAIN, ABORT);
        row(RETRY, PROPOSED, OK, ABSTAIN, RETRY);
        row(ABORT, SLOW, OK, ABORT, ABORT);
        row(ABORT, SLOW, OK, ABORT, RETRY);
        row(RETRY, PROPOSED, OK, RETRY, RETRY);
        row(ABORT, SLOW, ABSTAIN, ABSTAIN, ABORT);
        row(ABORT, SLOW, ABSTAIN, ABSTAIN, RETRY);
        row(ABORT, SLOW, ABSTAIN, ABORT, ABORT);
        row(ABORT, SLOW, ABSTAIN, ABORT, RETRY);
        row(RETRY, PROPOSED, ABSTAIN, RETRY, RETRY);
        row(ABORT, SLOW, ABORT, ABORT, RETRY);
        row(ABORT, SLOW, ABORT, RETRY, RETRY);
    }

    private static void two() {
        row(OK, SLOW, OK, OK, NOT_ASKED);
        row(ABORT, SLOW, OK, ABSTAIN, NOT_ASKED);
        row(ABORT, SLOW, OK, ABORT, NOT_ASKED);
        row(RETRY, PROPOSED, OK, RETRY, NOT_ASKED);
        row(ABORT, SLOW, ABSTAIN, ABSTAIN, NOT_ASKED);
        row(ABORT, SLOW, ABSTAIN, ABORT, NOT_ASKED);
        row(RETRY, PROPOSED, ABSTAIN, RETRY, NOT_ASKED);
        row(ABORT, SLOW, ABORT, ABORT, NOT_ASKED);
        row(ABORT, SLOW, ABORT, RETRY, NOT_ASKED);
        row(RETRY, PROPOSED, RETRY, RETRY, NOT_ASKED);
    }

    /** These answers, of whichever replicas, bring this result and this STATE. */
    private static void row(int result, int state, int... answers) {
        for (int[] order : ORDERS) {
            int[] given = {answers[order[0]], answers[order[1]], answers[order[2]]};
            TapirGroup g = answered(given);
            String what = " by " + given[0] + " " + given[1] + " " + given[2];
            int count = answers[2] == NOT_ASKED ? 2 : 3;
            due("decide" + what, result, g.decide(0));
            due("STATE" + what, state, g.client(0, 0));
            due("the slow result" + what, state == SLOW ? result : -1, g.client(0, 7));
            due("answers" + what, count, g.client(0, 5));
            for (int r = 0; r < 3; r++) {
                due("record" + what, given[r], g.record(r, SUBJECT));
            }
        }
    }

    private static void retryLeavesItProposed() {
        TapirGroup g = answered(RETRY, OK, NOT_ASKED);
        due("decide", RETRY, g.decide(0));
        due("decide again", RETRY, g.decide(0));
        due("a third answer", OK, g.prepare(0, 2));
        due("decide by three", OK, g.decide(0));
        due("STATE", SLOW, g.client(0, 0));

        TapirGroup again = answered(RETRY, RETRY, RETRY);
        again.decide(0);
        again.propose(0, 40);
        decideToCommit(again, 0);
    }
}
