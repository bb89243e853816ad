/** Promise 8, confirm: each sentence that names a boundary case. */
final class ConfirmEdgesTest extends Edges {
    public static void main(String[] args) {
        sentence("REPLICAS 0, 1, 2", ConfirmEdgesTest::firstAndLast);
        sentence("its record (made, if need be) has that result, FINAL", ConfirmEdgesTest::made);
        sentence("unless it is final already (with the same result it confirms, too)", ConfirmEdgesTest::finalAlready);
        sentence("A replica whose record is final with another result does not count.",
            ConfirmEdgesTest::anotherResult);
        sentence("how many replicas confirmed (each counts once)", ConfirmEdgesTest::eachCountsOnce);
        sentence("With two of them it is decided", ConfirmEdgesTest::two);
        sentence("no such client or replica", ConfirmEdgesTest::noSuchArgument);
        sentence("it is not slow", ConfirmEdgesTest::notSlow);
        sentence("the replica does not serve", ConfirmEdgesTest::doesNotServe);
        sentence("The first of these", ConfirmEdgesTest::order);
        close();
    }

    private static void firstAndLast() {
        for (int c = 0; c < 4; c++) {
            for (int r = 0; r < 3; r++) {
                TapirGroup g = new TapirGroup();
                proposeWrite(g, c, 0, 1, 1);
                g.prepare(c, 0);
                g.prepare(c, 1);
                g.decide(c);
                due("confirmations before the first", 0, g.client(c, 6));
                due("confirm(" + c + ", " + r + ")", 1, g.confirm(c, r));
                for (int other = 0; other < 3; other++) {
                    due("record at " + other, other == r ? OK | FINAL : other == 2 ? -1 : OK, g.record(other, 1));
                }
            }
        }
    }

    private static void made() {
        TapirGroup ok = inState(SLOW);
        due("no record yet", -1, ok.record(2, MINE));
        due("confirm", 1, ok.confirm(0, 2));
        due("record", OK | FINAL, ok.record(2, MINE));
        TapirGroup abort = answered(OK, ABSTAIN, NOT_ASKED);
        abort.decide(0);
        due("confirm", 1, abort.confirm(0, 2));
        due("record", ABORT | FINAL, abort.record(2, SUBJECT));
    }

    private static void finalAlready() {
        TapirGroup g = inState(SLOW);
        g.power(2, false);
        g.change();
        due("record of the change", OK | FINAL, g.record(1, MINE));
        due("confirm", 1, g.confirm(0, 1));
        due("record", OK | FINAL, g.record(1, MINE));
        due("confirm", 2, g.confirm(0, 0));
        due("STATE", TO_COMMIT, g.client(0, 0));
    }

    private static void anotherResult() {
        TapirGroup g = inState(SLOW);
        due("confirm before the change", 1, g.confirm(0, 0));
        g.power(0, false);
        g.change();
        due("record of the change", ABORT | FINAL, g.record(2, MINE));
        due("confirm", 1, g.confirm(0, 2));
        due("confirm", 1, g.confirm(0, 1));
        due("record", ABORT | FINAL, g.record(2, MINE));
        due("confirmations", 1, g.client(0, 6));
        due("STATE", SLOW, g.client(0, 0));
        TapirGroup none = inState(SLOW);
        none.change();
        for (int r = 0; r < 3; r++) {
            due("confirm at " + r + " before any did", 0, none.confirm(0, r));
        }
        due("STATE", SLOW, none.client(0, 0));
    }

    private static void eachCountsOnce() {
        for (int r = 0; r < 3; r++) {
            TapirGroup g = inState(SLOW);
            for (int times = 0; times < 3; times++) {
                due("confirm at " + r, 1, g.confirm(0, r));
            }
            due("confirmations", 1, g.client(0, 6));
            due("STATE", SLOW, g.client(0, 0));
        }
    }

    private static void two() {
        for (int first = 0; first < 3; first++) {
            for (int second = 0; second < 3; second++) {
                if (first == second) {
                    continue;
                }
                TapirGroup g = inState(SLOW);
                due("the first", 1, g.confirm(0, first));
                due("STATE behind the first", SLOW, g.client(0, 0));
                due("the second", 2, g.confirm(0, second));
                due("STATE behind the second", TO_COMMIT, g.client(0, 0));
                refused("a third", STATE, () -> g.confirm(0, 0));
                due("confirmations", 2, g.client(0, 6));
            }
        }
        TapirGroup abort = answered(ABSTAIN, OK, NOT_ASKED);
        abort.decide(0);
        abort.confirm(0, 1);
        due("the second", 2, abort.confirm(0, 2));
        due("STATE", TO_ABORT, abort.client(0, 0));
    }

    private static void noSuchArgument() {
        for (int no : NO_CLIENT) {
            refusedIn(() -> inState(SLOW), "confirm(" + no + ", 0)", ARGUMENT, g -> g.confirm(no, 0));
        }
        for (int no : NO_REPLICA) {
            refusedIn(() -> inState(SLOW), "confirm(0, " + no + ")", ARGUMENT, g -> g.confirm(0, no));
        }
    }

    private static void notSlow() {
        for (int r = 0; r < 3; r += 2) {
            int replica = r;
            refusedInStates(allStatesBut(SLOW), "confirm(0, " + r + ")", STATE, g -> g.confirm(0, replica));
        }
    }

    private static void doesNotServe() {
        refusedWithoutService(SLOW, "confirm(0, 2)", g -> g.confirm(0, 2));
        TapirGroup g = inState(SLOW);
        g.confirm(0, 2);
        g.power(2, false);
        refused("confirm where it confirmed, down", UNSUPPORTED, () -> g.confirm(0, 2));
        due("the confirmation stays", 1, g.client(0, 6));
        g.power(2, true);
        due("confirm where it is up again", 1, g.confirm(0, 2));
    }

    private static void order() {
        refusedIn(() -> inState(PROPOSED), "no such replica, and proposed", ARGUMENT, g -> g.confirm(0, 3));
        refusedIn(() -> inState(NEVER), "no such replica, and no transaction", ARGUMENT, g -> g.confirm(0, -1));
        refusedIn(() -> withOneDown(SLOW), "no such client, and down", ARGUMENT, g -> g.confirm(4, 2));
        for (int state : allStatesBut(SLOW)) {
            refusedIn(() -> withOneDown(state), "STATE " + state + ", and down", STATE, g -> g.confirm(0, 2));
        }
    }
}
