/** Promise 4, write: each sentence that names a boundary case. */
final class WriteEdgesTest extends Edges {
    private static final int[] VALUES = {Integer.MIN_VALUE, Integer.MIN_VALUE + 1, -2, -1, 0, 1,
        Integer.MAX_VALUE - 1, Integer.MAX_VALUE};

    public static void main(String[] args) {
        sentence("KEYS 0 to 5", WriteEdgesTest::firstAndLast);
        sentence("WRITES (a key, a value)", WriteEdgesTest::anyValue);
        sentence("Writes a key (again, too).", WriteEdgesTest::again);
        sentence("no such client or key", WriteEdgesTest::noSuchArgument);
        sentence("its transaction is not running", WriteEdgesTest::notRunning);
        sentence("four others are written", WriteEdgesTest::fourOthers);
        sentence("at most 4 keys are read and 4 written", WriteEdgesTest::fourAndFour);
        sentence("The first of these", WriteEdgesTest::order);
        close();
    }

    private static void firstAndLast() {
        for (int c = 0; c < 4; c++) {
            for (int key = 0; key < 6; key++) {
                TapirGroup g = new TapirGroup();
                g.begin(c);
                due("writes before the first", 0, g.client(c, 4));
                g.write(c, key, 10 * c + key);
                due("writes", 1, g.client(c, 4));
                due("read of key " + key + ", client " + c, 10 * c + key, g.read(c, key, 0));
                due("read of the key behind " + key, 0, g.read(c, (key + 1) % 6, 0));
            }
        }
    }

    private static void anyValue() {
        for (int value : VALUES) {
            TapirGroup g = new TapirGroup();
            commitWrite(g, 2, 3, 5, 1, 0, 1, 2);
            g.begin(0);
            g.write(0, 3, value);
            due("its own write of " + value, value, g.read(0, 3, 0));
            g.propose(0, 10);
            decideToCommit(g, 0);
            due("finish of " + value, true, g.finish(0, 0));
            due("at(0, 3, 1) of " + value, value, g.at(0, 3, 1));
            due("at(1, 3, 1) before the change", 5, g.at(1, 3, 1));
            g.change();
            due("at(1, 3, 1) of " + value + " behind a change", value, g.at(1, 3, 1));
            due("at(2, 3, 1) of " + value + " behind a change", value, g.at(2, 3, 1));
            g.begin(1);
            due("another's read of " + value, value, g.read(1, 3, 2));
            due("another's read of " + value + " again", value, g.read(1, 3, 0));
        }
    }

    private static void again() {
        TapirGroup g = inState(RUNNING);
        g.write(0, WRITTEN_KEY, 8);
        due("writes", 1, g.client(0, 4));
        due("the latest value", 8, g.read(0, WRITTEN_KEY, 0));
        g.write(0, WRITTEN_KEY, 8);
        due("writes, with the same value", 1, g.client(0, 4));
        g.propose(0, 10);
        decideToCommit(g, 0);
        g.finish(0, 1);
        due("the latest value is applied", 8, g.at(1, WRITTEN_KEY, 1));
    }

    private static void noSuchArgument() {
        for (int no : NO_CLIENT) {
            refusedIn(() -> inState(RUNNING), "write(" + no + ", 3, 1)", ARGUMENT, g -> g.write(no, OTHER_KEY, 1));
        }
        for (int no : NO_KEY) {
            refusedIn(() -> inState(RUNNING), "write(0, " + no + ", 1)", ARGUMENT, g -> g.write(0, no, 1));
        }
    }

    private static void notRunning() {
        for (int key : new int[] {OTHER_KEY, READ_KEY, WRITTEN_KEY}) {
            refusedInStates(allStatesBut(RUNNING), "write(0, " + key + ", 1)", STATE, g -> g.write(0, key, 1));
        }
    }

    /** Client 0 has written the keys 2, 3, 4 and 5. */
    private static TapirGroup full() {
        TapirGroup g = inState(RUNNING);
        for (int key = 3; key < 6; key++) {
            g.write(0, key, 10 + key);
        }
        return g;
    }

    private static void fourOthers() {
        TapirGroup g = full();
        due("writes", 4, g.client(0, 4));
        refusedIn(WriteEdgesTest::full, "a fifth", BOUNDS, full -> full.write(0, 0, 1));
        refusedIn(WriteEdgesTest::full, "another fifth", BOUNDS, full -> full.write(0, 1, 1));
        for (int key = 2; key < 6; key++) {
            g.write(0, key, 20 + key);
            due("one of the four again", 20 + key, g.read(0, key, 0));
        }
        due("writes", 4, g.client(0, 4));
        for (int free = 0; free < 6; free++) {
            for (int fifth = 0; fifth < 6; fifth++) {
                int left = free;
                int key = fifth;
                if (left != key) {
                    refused("the fifth is " + key, BOUNDS, () -> allButTwo(left, key).write(1, key, 0));
                }
            }
        }
    }

    /** Client 1 has written all keys but these two. */
    private static TapirGroup allButTwo(int one, int other) {
        TapirGroup g = new TapirGroup();
        g.begin(1);
        for (int key = 0; key < 6; key++) {
            if (key != one && key != other) {
                g.write(1, key, 0);
            }
        }
        return g;
    }

    private static void fourAndFour() {
        TapirGroup g = new TapirGroup();
        g.begin(3);
        for (int key = 0; key < 4; key++) {
            g.read(3, key, 0);
        }
        for (int key = 2; key < 6; key++) {
            g.write(3, key, 10 + key);
        }
        due("reads", 4, g.client(3, 3));
        due("writes", 4, g.client(3, 4));
        refused("a fifth that is read", BOUNDS, () -> g.write(3, 0, 1));
        g.propose(3, 1);
        decideToCommit(g, 3);
        g.finish(3, 2);
        for (int key = 0; key < 6; key++) {
            due("version of key " + key, key >= 2 ? 7 : 0, g.at(2, key, 0));
            due("value of key " + key, key >= 2 ? 10 + key : 0, g.at(2, key, 1));
            due("key " + key + " is read by", key < 4 ? 7 : 0, g.at(2, key, 2));
        }
    }

    private static void order() {
        refusedIn(() -> inState(NEVER), "no such key, and nothing runs", ARGUMENT, g -> g.write(0, 6, 1));
        refusedIn(() -> inState(SLOW), "no such key, and slow", ARGUMENT, g -> g.write(0, -1, 1));
        refusedIn(WriteEdgesTest::full, "no such key, and four are written", ARGUMENT, g -> g.write(0, 6, 1));
        refusedIn(WriteEdgesTest::full, "no such client, and four are written", ARGUMENT, g -> g.write(4, 0, 1));
        refusedIn(WriteEdgesTest::fullAndProposed, "proposed, and four are written", STATE, g -> g.write(0, 0, 1));
    }

    private static TapirGroup fullAndProposed() {
        TapirGroup g = full();
        g.propose(0, 10);
        return g;
    }
}
