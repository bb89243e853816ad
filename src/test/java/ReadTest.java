/** Promise 3: read. */
final class ReadTest extends Scenes {
    public static void main(String[] args) {
        theValueAtAReplica();
        whatItWroteItself();
        whatWasSeenBefore();
        atMostFourKeys();
        wrongArguments();
        onlyWhenRunning();
        onlyFromAReplicaThatServes();
        theOrderOfRefusals();
        close();
    }

    private static void theValueAtAReplica() {
        TapirGroup g = new TapirGroup();
        commitWrite(g, 0, 2, -7, 10, 1);
        g.begin(0);
        g.begin(1);
        due("read where it was applied", -7, g.read(0, 2, 1));
        due("read where it was not", 0, g.read(1, 2, 0));
        due("reads", 1, g.client(0, 3));
        due("writes", 0, g.client(0, 4));
        due("to read is no transaction's trace", 0, g.at(1, 2, 2));
    }

    private static void whatItWroteItself() {
        TapirGroup g = new TapirGroup();
        g.begin(0);
        g.write(0, 3, 0);
        g.write(0, 4, 9);
        due("read its own write", 9, g.read(0, 4, 0));
        due("that is no read", 0, g.client(0, 3));
        g.power(0, false);
        due("read its own write, replica down", 9, g.read(0, 4, 0));
        g.read(0, 5, 1);
        g.write(0, 5, 11);
        due("read what it read and then wrote", 11, g.read(0, 5, 1));
        due("reads", 1, g.client(0, 3));
    }

    private static void whatWasSeenBefore() {
        TapirGroup g = new TapirGroup();
        commitWrite(g, 0, 1, 5, 10, 0, 1, 2);
        g.begin(1);
        due("read first", 5, g.read(1, 1, 0));
        commitWrite(g, 0, 1, 6, 20, 0, 1, 2);
        due("read again", 5, g.read(1, 1, 0));
        due("read again elsewhere", 5, g.read(1, 1, 2));
        g.power(2, false);
        due("read again, replica down", 5, g.read(1, 1, 2));
        due("reads", 1, g.client(1, 3));
        g.propose(1, 30);
        due("the version that was seen first counts", ABORT, g.prepare(1, 0));
    }

    private static void atMostFourKeys() {
        TapirGroup g = new TapirGroup();
        g.begin(0);
        for (int key = 5; key >= 2; key--) {
            g.read(0, key, 0);
        }
        refused("a fifth key", BOUNDS, () -> g.read(0, 1, 0));
        due("one of the four again", 0, g.read(0, 5, 0));
        g.write(0, 1, 8);
        due("a fifth that it wrote", 8, g.read(0, 1, 0));
        due("reads", 4, g.client(0, 3));
        g.power(0, false);
        refused("a fifth key, replica down", UNSUPPORTED, () -> g.read(0, 0, 0));
    }

    private static void wrongArguments() {
        TapirGroup g = new TapirGroup();
        g.begin(0);
        g.write(0, 0, 1);
        for (int no : NO_INDEX) {
            refused("read of client " + no, ARGUMENT, () -> g.read(no, 0, 0));
            refused("read of key " + no, ARGUMENT, () -> g.read(0, no, 0));
            refused("read at replica " + no, ARGUMENT, () -> g.read(0, 1, no));
        }
        refused("read of client 4", ARGUMENT, () -> g.read(4, 0, 0));
        refused("read of key 6", ARGUMENT, () -> g.read(0, 6, 0));
        refused("read at replica 3, not asked", ARGUMENT, () -> g.read(0, 0, 3));
        due("key 5 at replica 2", 0, g.read(0, 5, 2));
    }

    private static void onlyWhenRunning() {
        TapirGroup g = new TapirGroup();
        refused("read without a transaction", STATE, () -> g.read(0, 0, 0));
        g.begin(0);
        g.read(0, 1, 0);
        g.propose(0, 1);
        refused("read when proposed", STATE, () -> g.read(0, 0, 0));
        refused("read again when proposed", STATE, () -> g.read(0, 1, 0));
        decideToCommit(g, 0);
        refused("read when decided", STATE, () -> g.read(0, 0, 0));
        g.end(0);
        refused("read when ended", STATE, () -> g.read(0, 0, 0));
    }

    private static void onlyFromAReplicaThatServes() {
        TapirGroup g = new TapirGroup();
        g.begin(0);
        g.power(2, false);
        refused("read at one that is down", UNSUPPORTED, () -> g.read(0, 0, 2));
        g.power(2, true);
        due("read at one that came up", 0, g.read(0, 0, 2));
        g.power(2, false);
        g.change();
        g.power(2, true);
        refused("read at one in an old view", UNSUPPORTED, () -> g.read(0, 1, 2));
        g.power(0, false);
        g.power(1, false);
        refused("read in an old view, the others down", UNSUPPORTED, () -> g.read(0, 1, 2));
        g.power(1, true);
        g.change();
        due("read at one behind a change", 0, g.read(0, 1, 2));
    }

    private static void theOrderOfRefusals() {
        TapirGroup g = new TapirGroup();
        g.power(0, false);
        refused("wrong key, no transaction", ARGUMENT, () -> g.read(0, 6, 0));
        refused("no transaction, replica down", STATE, () -> g.read(0, 0, 0));
    }
}
