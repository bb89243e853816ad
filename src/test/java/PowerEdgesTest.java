/** Promise 11, power: each sentence that names a boundary case. */
final class PowerEdgesTest extends Edges {
    public static void main(String[] args) {
        sentence("REPLICAS 0, 1, 2 are UP or not (all are at first)", PowerEdgesTest::firstAndLast);
        sentence("false when it is so already", PowerEdgesTest::soAlready);
        sentence("comes up (with what it knew, in the view that it had)", PowerEdgesTest::whatItKnew);
        sentence("no such replica", PowerEdgesTest::noSuchReplica);
        close();
    }

    private static void firstAndLast() {
        for (int r = 0; r < 3; r++) {
            TapirGroup g = new TapirGroup();
            due("power(" + r + ", false)", true, g.power(r, false));
            for (int other = 0; other < 3; other++) {
                due("whether " + other + " is up", other == r ? 0 : 1, g.state(5 + other));
            }
            due("power(" + r + ", true)", true, g.power(r, true));
            due("whether " + r + " is up again", 1, g.state(5 + r));
        }
        TapirGroup all = new TapirGroup();
        for (int r = 0; r < 3; r++) {
            due("the last goes down, too", true, all.power(r, false));
        }
        due("and the first comes up alone", true, all.power(0, true));
        due("state(6)", 0, all.state(6));
    }

    private static void soAlready() {
        for (int state : ALL_STATES) {
            TapirGroup up = inState(state);
            due("up when up", false, up.power(2, true));
            due("what is seen behind it", seen(inState(state)), seen(up));
            TapirGroup down = withOneDown(state);
            due("down when down", false, down.power(2, false));
            due("what is seen behind it", seen(withOneDown(state)), seen(down));
        }
        due("up when up, in an old view", false, withAnOldView(RUNNING).power(2, true));
    }

    private static void whatItKnew() {
        TapirGroup g = inState(TO_COMMIT);
        g.finish(0, 2);
        g.power(2, false);
        g.change();
        g.change();
        due("power", true, g.power(2, true));
        due("its view", 0, g.state(4));
        due("the group's view", 2, g.state(0));
        due("its record", OK | APPLIED, g.record(2, MINE));
        due("its version", 40, g.at(2, WRITTEN_KEY, 0));
        due("its value", 7, g.at(2, WRITTEN_KEY, 1));
        due("its read", 40, g.at(2, READ_KEY, 2));
    }

    private static void noSuchReplica() {
        for (int no : NO_REPLICA) {
            refusedIn(() -> inState(SLOW), "power(" + no + ", true)", ARGUMENT, g -> g.power(no, true));
            refusedIn(() -> inState(SLOW), "power(" + no + ", false)", ARGUMENT, g -> g.power(no, false));
            refusedIn(() -> withOneDown(SLOW), "power(" + no + ", true) with one down", ARGUMENT,
                g -> g.power(no, true));
        }
    }
}
