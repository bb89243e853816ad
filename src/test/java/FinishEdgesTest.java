/** Promise 9, finish: each sentence that names a boundary case. */
final class FinishEdgesTest extends Edges {
    public static void main(String[] args) {
        sentence("REPLICAS 0, 1, 2", FinishEdgesTest::firstAndLast);
        sentence("writes become versions with its timestamp, where that is greater", FinishEdgesTest::greaterVersion);
        sentence("of each key read its timestamp is noted, where that is greater", FinishEdgesTest::greaterRead);
        sentence("its timestamp is noted", FinishEdgesTest::firstAndLastTime);
        sentence("false when it was either already (applied or dropped)", FinishEdgesTest::already);
        sentence("(A record that is made by it, or by a change of view, for that has OK, or ABORT, and is not FINAL.)",
            FinishEdgesTest::made);
        sentence("no such client or replica", FinishEdgesTest::noSuchArgument);
        sentence("it is not decided", FinishEdgesTest::notDecided);
        sentence("the replica does not serve", FinishEdgesTest::doesNotServe);
        sentence("The first of these", FinishEdgesTest::order);
        close();
    }

    private static void firstAndLast() {
        for (int c = 0; c < 4; c++) {
            for (int r = 0; r < 3; r++) {
                TapirGroup g = new TapirGroup();
                proposeWrite(g, c, 5, 9, 1);
                decideToCommit(g, c);
                due("finish(" + c + ", " + r + ")", true, g.finish(c, r));
                for (int other = 0; other < 3; other++) {
                    due("record at " + other, other == r ? OK | APPLIED : OK, g.record(other, 1));
                    due("version at " + other, other == r ? 4 + c : 0, g.at(other, 5, 0));
                    due("value at " + other, other == r ? 9 : 0, g.at(other, 5, 1));
                }
            }
        }
    }

    /** The clients 0 and 1 wrote key 0 and read key 1, with the timestamps 40 and 41; both are decided. */
    private static TapirGroup twoDecided() {
        TapirGroup g = new TapirGroup();
        for (int c = 0; c < 2; c++) {
            g.begin(c);
            g.read(c, 1, 0);
            g.write(c, 0, 100 - c);
            g.propose(c, 10);
            decideToCommit(g, c);
        }
        return g;
    }

    private static void greaterVersion() {
        TapirGroup g = twoDecided();
        g.finish(0, 0);
        due("the first version", 40, g.at(0, 0, 0));
        due("the first value", 100, g.at(0, 0, 1));
        due("one more", true, g.finish(1, 0));
        due("a version of one more", 41, g.at(0, 0, 0));
        due("its value", 99, g.at(0, 0, 1));
        g.finish(1, 1);
        due("one less", true, g.finish(0, 1));
        due("a version of one less", 41, g.at(1, 0, 0));
        due("the value stays", 99, g.at(1, 0, 1));
        due("record of the one that changed no version", OK | APPLIED, g.record(1, 1));
    }

    private static void greaterRead() {
        TapirGroup g = twoDecided();
        g.finish(0, 0);
        due("the first read", 40, g.at(0, 1, 2));
        g.finish(1, 0);
        due("a read of one more", 41, g.at(0, 1, 2));
        g.finish(1, 1);
        g.finish(0, 1);
        due("a read of one less", 41, g.at(1, 1, 2));
        due("a key that is only written", 0, g.at(0, 0, 2));
        due("a key that is only read", 0, g.at(0, 1, 0));
    }

    private static void firstAndLastTime() {
        for (int time : new int[] {1, LAST_TIME}) {
            for (int c = 0; c < 4; c++) {
                TapirGroup g = new TapirGroup();
                g.begin(c);
                g.read(c, 0, 0);
                g.write(c, 5, 1);
                g.propose(c, time);
                decideToCommit(g, c);
                g.finish(c, 2);
                due("version", 4 * time + c, g.at(2, 5, 0));
                due("read by", 4 * time + c, g.at(2, 0, 2));
            }
        }
    }

    private static void already() {
        for (int state : new int[] {TO_COMMIT, TO_ABORT}) {
            TapirGroup g = inState(state);
            TapirGroup once = inState(state);
            for (int r = 0; r < 3; r++) {
                due("finish at " + r, true, g.finish(0, r));
                due("finish at " + r + " again", false, g.finish(0, r));
                once.finish(0, r);
            }
            due("what is seen behind a finish that was false", seen(once), seen(g));
            TapirGroup changed = inState(state);
            changed.finish(0, 1);
            changed.change();
            for (int r = 0; r < 3; r++) {
                due("finish at " + r + " behind a change", false, changed.finish(0, r));
            }
        }
    }

    private static void made() {
        TapirGroup commits = inState(SLOW);
        commits.confirm(0, 0);
        commits.confirm(0, 1);
        due("no record yet", -1, commits.record(2, MINE));
        due("finish", true, commits.finish(0, 2));
        due("record", OK | APPLIED, commits.record(2, MINE));
        due("version", 40, commits.at(2, WRITTEN_KEY, 0));
        due("finish again", false, commits.finish(0, 2));
        TapirGroup aborts = answered(OK, ABSTAIN, NOT_ASKED);
        aborts.decide(0);
        aborts.confirm(0, 0);
        aborts.confirm(0, 1);
        due("no record yet", -1, aborts.record(2, SUBJECT));
        due("finish", true, aborts.finish(0, 2));
        due("record", ABORT | DROPPED, aborts.record(2, SUBJECT));
        due("finish again", false, aborts.finish(0, 2));
    }

    private static void noSuchArgument() {
        for (int state : new int[] {TO_COMMIT, TO_ABORT}) {
            for (int no : NO_CLIENT) {
                refusedIn(() -> inState(state), "finish(" + no + ", 0)", ARGUMENT, g -> g.finish(no, 0));
            }
            for (int no : NO_REPLICA) {
                refusedIn(() -> inState(state), "finish(0, " + no + ")", ARGUMENT, g -> g.finish(0, no));
            }
        }
    }

    private static void notDecided() {
        for (int r = 0; r < 3; r += 2) {
            int replica = r;
            refusedInStates(allStatesBut(TO_COMMIT, TO_ABORT), "finish(0, " + r + ")", STATE,
                g -> g.finish(0, replica));
        }
    }

    private static void doesNotServe() {
        refusedWithoutService(TO_COMMIT, "finish(0, 2)", g -> g.finish(0, 2));
        refusedWithoutService(TO_ABORT, "finish(0, 2)", g -> g.finish(0, 2));
        TapirGroup g = inState(TO_COMMIT);
        g.finish(0, 2);
        g.power(2, false);
        refused("finish where it is applied, down", UNSUPPORTED, () -> g.finish(0, 2));
        g.change();
        g.power(2, true);
        refused("finish where it is applied, in an old view", UNSUPPORTED, () -> g.finish(0, 2));
        g.change();
        due("finish where it serves again", false, g.finish(0, 2));
    }

    private static void order() {
        refusedIn(() -> inState(PROPOSED), "no such replica, and proposed", ARGUMENT, g -> g.finish(0, 3));
        refusedIn(() -> inState(NEVER), "no such replica, and no transaction", ARGUMENT, g -> g.finish(0, -1));
        refusedIn(() -> withOneDown(TO_COMMIT), "no such client, and down", ARGUMENT, g -> g.finish(4, 2));
        for (int state : allStatesBut(TO_COMMIT, TO_ABORT)) {
            refusedIn(() -> withOneDown(state), "STATE " + state + ", and down", STATE, g -> g.finish(0, 2));
        }
    }
}
