/** Promise 10, end: each sentence that names a boundary case. */
final class EndEdgesTest extends Edges {
    public static void main(String[] args) {
        sentence("CLIENTS 0 to 3", EndEdgesTest::firstAndLast);
        sentence("finished at replicas or not (records stay)", EndEdgesTest::finishedAtNoneSomeAndAll);
        sentence("no such client", EndEdgesTest::noSuchClient);
        sentence("it is not decided", EndEdgesTest::notDecided);
        close();
    }

    private static void firstAndLast() {
        for (int c = 0; c < 4; c++) {
            TapirGroup g = new TapirGroup();
            proposeWrite(g, c, 0, 1, 1);
            decideToCommit(g, c);
            g.end(c);
            due("STATE of client " + c, 0, g.client(c, 0));
            due("the next of client " + c, 2, g.begin(c));
        }
    }

    private static void finishedAtNoneSomeAndAll() {
        for (int state : new int[] {TO_COMMIT, TO_ABORT}) {
            for (int finished = 0; finished <= 3; finished++) {
                TapirGroup g = inState(state);
                for (int r = 0; r < finished; r++) {
                    g.finish(0, r);
                }
                int[] records = {g.record(0, MINE), g.record(1, MINE), g.record(2, MINE)};
                g.end(0);
                for (int what = 0; what < 8; what++) {
                    due("client(0, " + what + ")", what == 7 ? -1 : 0, g.client(0, what));
                }
                for (int r = 0; r < 3; r++) {
                    due("record at " + r, records[r], g.record(r, MINE));
                }
            }
        }
        TapirGroup allDown = inState(TO_COMMIT);
        for (int r = 0; r < 3; r++) {
            allDown.power(r, false);
        }
        allDown.end(0);
        due("STATE when all are down", 0, allDown.client(0, 0));
    }

    private static void noSuchClient() {
        for (int no : NO_CLIENT) {
            refusedIn(() -> inState(TO_COMMIT), "end(" + no + ")", ARGUMENT, g -> g.end(no));
            refusedIn(TapirGroup::new, "end(" + no + ") of a new object", ARGUMENT, g -> g.end(no));
        }
    }

    private static void notDecided() {
        refusedInStates(allStatesBut(TO_COMMIT, TO_ABORT), "end(0)", STATE, g -> g.end(0));
        refusedIn(TapirGroup::new, "end(3) of a new object", STATE, g -> g.end(3));
    }
}
