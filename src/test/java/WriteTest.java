/** Promise 4: write. */
final class WriteTest extends Scenes {
    public static void main(String[] args) {
        writesAndWritesAgain();
        atMostFourKeys();
        wrongArguments();
        onlyWhenRunning();
        close();
    }

    private static void writesAndWritesAgain() {
        TapirGroup g = new TapirGroup();
        g.begin(3);
        g.write(3, 0, Integer.MIN_VALUE);
        g.write(3, 5, 4);
        g.write(3, 5, Integer.MAX_VALUE);
        due("writes", 2, g.client(3, 4));
        due("reads", 0, g.client(3, 3));
        due("read of key 0", Integer.MIN_VALUE, g.read(3, 0, 0));
        due("read of key 5", Integer.MAX_VALUE, g.read(3, 5, 0));
        due("at a replica nothing is seen yet", 0, g.at(0, 5, 1));
        g.propose(3, 2);
        decideToCommit(g, 3);
        g.finish(3, 1);
        due("at(1, 0, 1)", Integer.MIN_VALUE, g.at(1, 0, 1));
        due("at(1, 5, 1)", Integer.MAX_VALUE, g.at(1, 5, 1));
    }

    private static void atMostFourKeys() {
        TapirGroup g = new TapirGroup();
        g.begin(0);
        for (int key = 5; key >= 2; key--) {
            g.write(0, key, key);
        }
        refused("a fifth key", BOUNDS, () -> g.write(0, 1, 1));
        g.write(0, 5, 50);
        due("one of the four again", 50, g.read(0, 5, 0));
        due("writes", 4, g.client(0, 4));
        for (int key = 0; key < 2; key++) {
            g.read(0, key, 0);
        }
        due("reads are counted apart", 2, g.client(0, 3));
    }

    private static void wrongArguments() {
        TapirGroup g = new TapirGroup();
        g.begin(0);
        for (int no : NO_INDEX) {
            refused("write of client " + no, ARGUMENT, () -> g.write(no, 0, 0));
            refused("write of key " + no, ARGUMENT, () -> g.write(0, no, 0));
        }
        refused("write of client 4", ARGUMENT, () -> g.write(4, 0, 0));
        refused("write of key 6", ARGUMENT, () -> g.write(0, 6, 0));
        for (int key = 0; key < 4; key++) {
            g.write(0, key, 1);
        }
        refused("write of key 6 behind four", ARGUMENT, () -> g.write(0, 6, 0));
        refused("write of key 6, no transaction", ARGUMENT, () -> g.write(1, 6, 0));
    }

    private static void onlyWhenRunning() {
        TapirGroup g = new TapirGroup();
        refused("write without a transaction", STATE, () -> g.write(0, 0, 0));
        g.begin(0);
        for (int key = 0; key < 4; key++) {
            g.write(0, key, 1);
        }
        g.propose(0, 1);
        refused("a fifth key when proposed", STATE, () -> g.write(0, 4, 0));
        refused("write again when proposed", STATE, () -> g.write(0, 0, 2));
        decideToCommit(g, 0);
        refused("write when decided", STATE, () -> g.write(0, 0, 2));
        g.end(0);
        refused("write when ended", STATE, () -> g.write(0, 0, 2));
    }
}
