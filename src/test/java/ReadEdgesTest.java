/** Promise 3, read: each sentence that names a boundary case. */
final class ReadEdgesTest extends Edges {
    public static void main(String[] args) {
        sentence("KEYS 0 to 5", ReadEdgesTest::firstAndLast);
        sentence("(0 at first, with value 0)", ReadEdgesTest::aKeyThatNobodyWrote);
        sentence("what it wrote itself", ReadEdgesTest::whatItWroteItself);
        sentence("a key that was read before is not read again", ReadEdgesTest::whatWasSeen);
        sentence("no such client, key or replica", ReadEdgesTest::noSuchArgument);
        sentence("its transaction is not running", ReadEdgesTest::notRunning);
        sentence("the replica does not serve", ReadEdgesTest::doesNotServe);
        sentence("(and would have to be asked)", ReadEdgesTest::needNotBeAsked);
        sentence("four keys are read (and it would be a fifth)", ReadEdgesTest::fourAreRead);
        sentence("(and it would be a fifth)", ReadEdgesTest::noFifth);
        sentence("The first of these", ReadEdgesTest::order);
        close();
    }

    private static void firstAndLast() {
        for (int c = 0; c < 4; c++) {
            for (int key = 0; key < 6; key++) {
                for (int r = 0; r < 3; r++) {
                    TapirGroup g = new TapirGroup();
                    commitWrite(g, 1, key, 10 * key + r + 1, 5, r);
                    g.begin(c);
                    String what = "read(" + c + ", " + key + ", " + r + ")";
                    due(what, 10 * key + r + 1, g.read(c, key, r));
                    due("reads behind " + what, 1, g.client(c, 3));
                }
            }
        }
    }

    private static void aKeyThatNobodyWrote() {
        TapirGroup g = new TapirGroup();
        g.begin(0);
        due("reads before the first", 0, g.client(0, 3));
        due("read", 0, g.read(0, 4, 1));
        due("reads", 1, g.client(0, 3));
        commitWrite(g, 1, 4, 9, 1, 0, 1, 2);
        due("read again when it is written", 0, g.read(0, 4, 1));
        due("reads", 1, g.client(0, 3));
        g.propose(0, 2);
        due("version 0 was seen", ABORT, g.prepare(0, 1));
    }

    private static void whatItWroteItself() {
        TapirGroup g = inState(RUNNING);
        g.write(0, 0, 0);
        due("a written 0 where 6 was read", 0, g.read(0, 0, 0));
        g.write(0, 3, -1);
        due("a written -1", -1, g.read(0, 3, 0));
        due("its own writes are no reads", 2, g.client(0, 3));
    }

    private static void whatWasSeen() {
        TapirGroup g = inState(RUNNING);
        commitWrite(g, 1, READ_KEY, 9, 20, 0, 1, 2);
        for (int r = 0; r < 3; r++) {
            due("read again at " + r, 6, g.read(0, READ_KEY, r));
        }
        g.begin(2);
        due("read by another one", 9, g.read(2, READ_KEY, 0));
        due("reads", 2, g.client(0, 3));
    }

    private static void noSuchArgument() {
        for (int no : NO_CLIENT) {
            refusedIn(() -> inState(RUNNING), "read(" + no + ", 3, 0)", ARGUMENT, g -> g.read(no, OTHER_KEY, 0));
        }
        for (int no : NO_KEY) {
            refusedIn(() -> inState(RUNNING), "read(0, " + no + ", 0)", ARGUMENT, g -> g.read(0, no, 0));
        }
        for (int no : NO_REPLICA) {
            for (int key : new int[] {OTHER_KEY, READ_KEY, WRITTEN_KEY}) {
                refusedIn(() -> inState(RUNNING), "read(0, " + key + ", " + no + ")", ARGUMENT,
                    g -> g.read(0, key, no));
            }
        }
    }

    private static void notRunning() {
        for (int key : new int[] {OTHER_KEY, READ_KEY, WRITTEN_KEY}) {
            refusedInStates(allStatesBut(RUNNING), "read(0, " + key + ", 0)", STATE, g -> g.read(0, key, 0));
        }
    }

    private static void doesNotServe() {
        refusedWithoutService(RUNNING, "read(0, 3, 2)", g -> g.read(0, OTHER_KEY, 2));
        TapirGroup g = withAnOldView(RUNNING);
        due("read at one that serves", 0, g.read(0, OTHER_KEY, 1));
        g.change();
        due("read where it serves again", 0, g.read(0, 4, 2));
        TapirGroup down = withOneDown(RUNNING);
        down.power(2, true);
        due("read where it is up again", 0, down.read(0, OTHER_KEY, 2));
    }

    private static void needNotBeAsked() {
        due("its own write, down", 7, withOneDown(RUNNING).read(0, WRITTEN_KEY, 2));
        due("its own write, in an old view", 7, withAnOldView(RUNNING).read(0, WRITTEN_KEY, 2));
        due("seen before, down", 6, withOneDown(RUNNING).read(0, READ_KEY, 2));
        due("seen before, in an old view", 6, withAnOldView(RUNNING).read(0, READ_KEY, 2));
        due("seen before, 0, in an old view", 0, withAnOldViewAlone(RUNNING).read(0, 1, 2));
    }

    /** Client 0 has read the keys 0, 1, 3 and 4, and written key 2. */
    private static TapirGroup full() {
        TapirGroup g = inState(RUNNING);
        g.read(0, 3, 0);
        g.read(0, 4, 1);
        return g;
    }

    private static void fourAreRead() {
        TapirGroup g = inState(RUNNING);
        g.read(0, 3, 0);
        due("reads before the fourth", 3, g.client(0, 3));
        due("the fourth", 0, g.read(0, 5, 2));
        due("reads", 4, g.client(0, 3));
        refusedIn(ReadEdgesTest::full, "a fifth", BOUNDS, full -> full.read(0, 5, 0));
        for (int free = 0; free < 6; free++) {
            for (int fifth = 0; fifth < 6; fifth++) {
                int left = free;
                int key = fifth;
                if (left != key) {
                    refused("the fifth is " + key, BOUNDS, () -> allButTwo(left, key).read(1, key, 0));
                }
            }
        }
    }

    /** Client 1 has read all keys but these two. */
    private static TapirGroup allButTwo(int one, int other) {
        TapirGroup g = new TapirGroup();
        g.begin(1);
        for (int key = 0; key < 6; key++) {
            if (key != one && key != other) {
                g.read(1, key, 0);
            }
        }
        return g;
    }

    private static void noFifth() {
        TapirGroup g = full();
        due("one of the four", 6, g.read(0, READ_KEY, 0));
        due("another of the four", 0, g.read(0, 4, 2));
        due("a written one", 7, g.read(0, WRITTEN_KEY, 0));
        g.write(0, 5, 3);
        due("one that is written now", 3, g.read(0, 5, 0));
        due("reads", 4, g.client(0, 3));
        TapirGroup wrote = new TapirGroup();
        wrote.begin(0);
        wrote.write(0, 0, 1);
        wrote.write(0, 1, 1);
        for (int key = 0; key < 6; key++) {
            wrote.read(0, key, 0);
        }
        due("reads of four beside two that are written", 4, wrote.client(0, 3));
    }

    private static void order() {
        refusedIn(() -> inState(NEVER), "no such key, and nothing runs", ARGUMENT, g -> g.read(0, 6, 0));
        refusedIn(() -> inState(NEVER), "no such replica, and nothing runs", ARGUMENT, g -> g.read(0, 0, 3));
        refusedIn(() -> withOneDown(RUNNING), "no such client, and down", ARGUMENT, g -> g.read(4, 0, 2));
        refusedIn(() -> withOneDown(RUNNING), "no such key, and down", ARGUMENT, g -> g.read(0, 6, 2));
        refusedIn(ReadEdgesTest::full, "no such key, and four are read", ARGUMENT, g -> g.read(0, 6, 0));
        refusedIn(ReadEdgesTest::full, "no such replica, and four are read", ARGUMENT, g -> g.read(0, 5, 3));
        for (int state : allStatesBut(RUNNING)) {
            refusedIn(() -> withOneDown(state), "STATE " + state + ", and down", STATE, g -> g.read(0, OTHER_KEY, 2));
        }
        refusedIn(ReadEdgesTest::fullAndProposed, "proposed, and four are read", STATE, g -> g.read(0, 5, 0));
        refusedIn(ReadEdgesTest::fullAndDown, "down, and four are read", UNSUPPORTED, g -> g.read(0, 5, 2));
    }

    private static TapirGroup fullAndProposed() {
        TapirGroup g = full();
        g.propose(0, 10);
        return g;
    }

    private static TapirGroup fullAndDown() {
        TapirGroup g = full();
        g.power(2, false);
        return g;
    }
}
