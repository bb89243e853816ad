import java.util.function.Consumer;

/** 'Terms': each sentence that names a boundary case and binds more than one call. */
final class TermsEdgesTest extends Edges {
    public static void main(String[] args) {
        sentence("are UP or not (all are at first) and have a VIEW (0 at first)", TermsEdgesTest::allUpInViewZero);
        sentence("the GROUP's view is the greatest one", TermsEdgesTest::theGroupsView);
        sentence("A replica SERVES when it is up and its view is the group's.", TermsEdgesTest::serves);
        sentence("A VERSION of a key is a timestamp (0 at first, with value 0)", TermsEdgesTest::versionZero);
        sentence("the greatest timestamp of an applied transaction that READ it (0: none)",
            TermsEdgesTest::readsOfAppliedOnes);
        sentence("each has at most one transaction", TermsEdgesTest::atMostOne);
        sentence("1 running, 2 proposed, 3 slow (of some result), 4 decided to commit, 5 decided to abort; 0: none",
            TermsEdgesTest::states);
        sentence("at most 4 keys are read and 4 written", TermsEdgesTest::fourOfEachClient);
        sentence("It is PREPARED where its result is OK and it is neither applied nor dropped.",
            TermsEdgesTest::prepared);
        close();
    }

    private static void allUpInViewZero() {
        TapirGroup g = new TapirGroup();
        for (int r = 0; r < 3; r++) {
            due("whether " + r + " is up", 1, g.state(5 + r));
            due("view of " + r, 0, g.state(2 + r));
            due("up when up", false, g.power(r, true));
        }
        due("the group's view", 0, g.state(0));
    }

    private static void theGroupsView() {
        for (int old = 0; old < 3; old++) {
            TapirGroup g = new TapirGroup();
            g.power(old, false);
            g.change();
            due("the group's view", 1, g.state(0));
            g.power(old, true);
            g.power((old + 1) % 3, false);
            g.power((old + 2) % 3, false);
            due("the group's view when those that have it are down", 1, g.state(0));
            due("view of the one that is up", 0, g.state(2 + old));
        }
    }

    /** Replica r is asked in each way that a replica can be asked in. */
    private static void asked(int r, Consumer<TapirGroup> bringAbout, Class<?> want) {
        askedIn(RUNNING, r, bringAbout, want, g -> g.read(0, OTHER_KEY, r));
        askedIn(PROPOSED, r, bringAbout, want, g -> g.prepare(0, r));
        askedIn(SLOW, r, bringAbout, want, g -> g.confirm(0, r));
        askedIn(TO_COMMIT, r, bringAbout, want, g -> g.finish(0, r));
        askedIn(TO_ABORT, r, bringAbout, want, g -> g.finish(0, r));
    }

    private static void askedIn(int state, int r, Consumer<TapirGroup> bringAbout, Class<?> want,
            Consumer<TapirGroup> call) {
        TapirGroup g = inState(state);
        bringAbout.accept(g);
        refused("to ask " + r + " in STATE " + state, want, () -> call.accept(g));
    }

    private static void serves() {
        for (int r = 0; r < 3; r++) {
            int one = r;
            int other = (r + 1) % 3;
            int third = (r + 2) % 3;
            asked(one, g -> g.power(other, false), null);
            asked(one, g -> g.change(), null);
            asked(one, g -> g.power(one, false), UNSUPPORTED);
            asked(one, g -> {
                g.power(other, false);
                g.change();
            }, null);
            asked(one, g -> {
                g.power(one, false);
                g.change();
            }, UNSUPPORTED);
            asked(one, g -> {
                g.power(one, false);
                g.change();
                g.power(one, true);
            }, UNSUPPORTED);
            asked(one, g -> {
                g.power(one, false);
                g.change();
                g.power(one, true);
                g.power(other, false);
                g.power(third, false);
            }, UNSUPPORTED);
            asked(one, g -> {
                g.power(one, false);
                g.power(one, true);
            }, null);
            asked(one, g -> {
                g.power(one, false);
                g.change();
                g.power(one, true);
                g.change();
            }, null);
            asked(one, g -> {
                g.power(other, false);
                g.power(third, false);
            }, null);
        }
    }

    private static void versionZero() {
        for (int r = 0; r < 3; r++) {
            for (int key = 0; key < 6; key++) {
                TapirGroup g = new TapirGroup();
                due("version", 0, g.at(r, key, 0));
                due("value", 0, g.at(r, key, 1));
                due("read by", 0, g.at(r, key, 2));
                proposeRead(g, 0, key, r, 1);
                due("version 0 is less than the first timestamp", OK, g.prepare(0, r));
            }
        }
    }

    private static void readsOfAppliedOnes() {
        TapirGroup g = inState(TO_COMMIT);
        due("read, prepared, decided, and not applied", 0, g.at(0, READ_KEY, 2));
        g.finish(0, 0);
        due("applied", 40, g.at(0, READ_KEY, 2));
        due("not applied there", 0, g.at(1, READ_KEY, 2));
        TapirGroup aborted = inState(TO_ABORT);
        aborted.finish(0, 0);
        due("dropped", 0, aborted.at(0, READ_KEY, 2));
    }

    private static void atMostOne() {
        TapirGroup g = new TapirGroup();
        for (int c = 0; c < 4; c++) {
            int client = c;
            due("begin", c + 1, g.begin(c));
            refused("a second one", STATE, () -> g.begin(client));
            due("number", c + 1, g.client(c, 1));
        }
        due("transactions", 4, g.state(1));
    }

    private static void states() {
        for (int state : ALL_STATES) {
            due("STATE", state == NEVER ? 0 : state, inState(state).client(0, 0));
        }
    }

    private static void fourOfEachClient() {
        TapirGroup g = new TapirGroup();
        for (int c = 0; c < 4; c++) {
            g.begin(c);
            for (int key = 0; key < 4; key++) {
                g.read(c, key, 0);
            }
            for (int key = 2; key < 6; key++) {
                g.write(c, key, c);
            }
        }
        for (int c = 0; c < 4; c++) {
            int client = c;
            due("reads of client " + c, 4, g.client(c, 3));
            due("writes of client " + c, 4, g.client(c, 4));
            refused("a fifth write of client " + c, BOUNDS, () -> g.write(client, 0, 1));
        }
    }

    /** Client 3 reads key 2, which client 0 writes, and asks replica 0. */
    private static int readOfTheWrite(TapirGroup g) {
        proposeRead(g, 3, WRITTEN_KEY, 0, 50);
        return g.prepare(3, 0);
    }

    private static void prepared() {
        due("no record", OK, readOfTheWrite(inState(RUNNING)));
        due("a record with OK", ABSTAIN, readOfTheWrite(inState(PROPOSED)));
        due("a record with OK, slow", ABSTAIN, readOfTheWrite(inState(SLOW)));
        due("a record with OK, decided", ABSTAIN, readOfTheWrite(inState(TO_COMMIT)));
        due("a record with OK, ended", ABSTAIN, readOfTheWrite(inState(ENDED)));
        due("a record with ABORT", OK, readOfTheWrite(inState(TO_ABORT)));
        TapirGroup isFinal = inState(SLOW);
        isFinal.confirm(0, 0);
        due("a final record with OK", ABSTAIN, readOfTheWrite(isFinal));
        TapirGroup applied = inState(TO_COMMIT);
        applied.finish(0, 0);
        due("an applied record with OK", OK, readOfTheWrite(applied));
        TapirGroup changed = inState(TO_COMMIT);
        changed.finish(0, 1);
        changed.change();
        due("a record with OK that a change applied", OK, readOfTheWrite(changed));
        TapirGroup dropped = answered(OK, ABSTAIN, ABSTAIN);
        dropped.decide(0);
        dropped.confirm(0, 1);
        dropped.confirm(0, 2);
        proposeRead(dropped, 2, 1, 0, 50);
        due("a record with OK of one that is to abort", ABSTAIN, dropped.prepare(2, 0));
        dropped.finish(0, 0);
        dropped.propose(2, 51);
        due("a dropped record with OK", OK, dropped.prepare(2, 0));
    }
}
