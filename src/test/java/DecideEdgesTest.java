import java.util.Arrays;

/** Promise 7, decide, and the rule: each sentence that names a boundary case. */
final class DecideEdgesTest extends Edges {
    public static void main(String[] args) {
        sentence("CLIENTS 0 to 3", DecideEdgesTest::firstAndLast);
        sentence("some are ABORT: ABORT.", DecideEdgesTest::someAreAbort);
        sentence("Two or more are OK: OK.", DecideEdgesTest::twoAreOk);
        sentence("Two or more are ABSTAIN: ABORT.", DecideEdgesTest::twoAreAbstain);
        sentence("Some are RETRY: RETRY. Else ABORT.", DecideEdgesTest::someAreRetry);
        sentence("no such client", DecideEdgesTest::noSuchClient);
        sentence("it is not proposed", DecideEdgesTest::notProposed);
        sentence("has fewer than two answers", DecideEdgesTest::fewerThanTwo);
        sentence("Two or three, not three alike", DecideEdgesTest::twoAlikeAreSlow);
        sentence("RETRY: it is proposed still, with its answers", DecideEdgesTest::retryChangesNothing);
        sentence("three ABSTAIN: 2", DecideEdgesTest::threeAbstain);
        close();
    }

    private static void firstAndLast() {
        for (int c = 0; c < 4; c++) {
            TapirGroup g = new TapirGroup();
            proposeWrite(g, c, 0, 1, 1);
            decideToCommit(g, c);
            due("STATE of client " + c, TO_COMMIT, g.client(c, 0));
        }
    }

    private static void decided(int want, int... answers) {
        due("decide by " + Arrays.toString(answers), want, answered(answers).decide(0));
    }

    private static void someAreAbort() {
        decided(ABORT, ABORT, OK, OK);
        decided(ABORT, OK, ABORT, OK);
        decided(ABORT, RETRY, RETRY, ABORT);
        decided(ABORT, ABORT, NOT_ASKED, OK);
        decided(ABORT, RETRY, ABORT, NOT_ASKED);
        decided(ABORT, ABORT, ABORT, ABORT);
    }

    private static void twoAreOk() {
        decided(OK, OK, OK, RETRY);
        decided(OK, ABSTAIN, OK, OK);
        decided(OK, OK, NOT_ASKED, OK);
        decided(OK, OK, OK, OK);
        decided(RETRY, OK, RETRY, NOT_ASKED);
        decided(ABORT, OK, ABSTAIN, NOT_ASKED);
    }

    private static void twoAreAbstain() {
        decided(ABORT, ABSTAIN, RETRY, ABSTAIN);
        decided(ABORT, ABSTAIN, ABSTAIN, OK);
        decided(ABORT, NOT_ASKED, ABSTAIN, ABSTAIN);
        decided(RETRY, RETRY, ABSTAIN, RETRY);
        decided(RETRY, OK, ABSTAIN, RETRY);
    }

    private static void someAreRetry() {
        decided(RETRY, NOT_ASKED, OK, RETRY);
        decided(RETRY, RETRY, ABSTAIN, NOT_ASKED);
        decided(RETRY, RETRY, OK, RETRY);
        decided(ABORT, OK, NOT_ASKED, ABSTAIN);
        decided(ABORT, NOT_ASKED, ABSTAIN, OK);
    }

    private static void noSuchClient() {
        for (int no : NO_CLIENT) {
            refusedIn(() -> inState(PROPOSED), "decide(" + no + ")", ARGUMENT, g -> g.decide(no));
            refusedIn(TapirGroup::new, "decide(" + no + ") of a new object", ARGUMENT, g -> g.decide(no));
        }
    }

    private static void notProposed() {
        refusedInStates(allStatesBut(PROPOSED), "decide(0)", STATE, g -> g.decide(0));
    }

    private static TapirGroup withAnswersOf(int... replicas) {
        TapirGroup g = inState(RUNNING);
        g.propose(0, 10);
        for (int r : replicas) {
            g.prepare(0, r);
        }
        return g;
    }

    private static void fewerThanTwo() {
        refusedIn(DecideEdgesTest::withAnswersOf, "decide without answers", STATE, g -> g.decide(0));
        for (int r = 0; r < 3; r++) {
            int replica = r;
            refusedIn(() -> withAnswersOf(replica), "decide with one answer", STATE, g -> g.decide(0));
            refusedIn(() -> withAnswersOf(replica, replica, replica), "decide with one answer, thrice", STATE,
                g -> g.decide(0));
            due("decide with two answers", OK, withAnswersOf((r + 1) % 3, (r + 2) % 3).decide(0));
        }
        TapirGroup again = withAnswersOf(0, 1);
        again.propose(0, 11);
        refused("decide with forgotten answers", STATE, () -> again.decide(0));
        again.prepare(0, 1);
        refused("decide with one answer and forgotten ones", STATE, () -> again.decide(0));
        again.prepare(0, 2);
        due("decide with two answers again", OK, again.decide(0));
    }

    private static void twoAlikeAreSlow() {
        for (int result : new int[] {OK, ABSTAIN, ABORT}) {
            TapirGroup g = answered(result, NOT_ASKED, result);
            due("decide by two of " + result, result == OK ? OK : ABORT, g.decide(0));
            due("STATE", SLOW, g.client(0, 0));
            due("the result", result == OK ? OK : ABORT, g.client(0, 7));
        }
    }

    private static void retryChangesNothing() {
        int[][] all = {{RETRY, RETRY, RETRY}, {RETRY, RETRY, NOT_ASKED}, {OK, NOT_ASKED, RETRY},
            {ABSTAIN, OK, RETRY}};
        for (int[] answers : all) {
            TapirGroup g = answered(answers);
            due("decide", RETRY, g.decide(0));
            due("what is seen behind RETRY", seen(answered(answers)), seen(g));
            due("decide again", RETRY, g.decide(0));
        }
        TapirGroup more = answered(RETRY, NOT_ASKED, OK);
        more.decide(0);
        more.prepare(0, 1);
        due("decide with the answers that it had and one more", OK, more.decide(0));
    }

    private static void threeAbstain() {
        TapirGroup g = answered(ABSTAIN, ABSTAIN, ABSTAIN);
        due("decide", ABORT, g.decide(0));
        due("STATE", TO_ABORT, g.client(0, 0));
        due("the result of one that is not slow", -1, g.client(0, 7));
    }
}
