/** Promise 3: read. */
final class ReadTest extends Scenes {
    public static void main(String[] args) {
        theValueAtAReplica();
        whatItWroteItself();
        whatWasSeenBefore();
        close();
    }

    private static void theValueAtAReplica() {
        TapirGroup g = new TapirGroup();
        commitWrite(g, 0, 2, -7, 10, 1);
        g.begin(0);
        g.begin(1);
        due("read where it was applied", -7, g.read(0, 2, 1));
        due("read where it was not", 0, g.read(1, 2, 0));
        due("reads", 1, g.client(0, 3));
        due("writes", 0, g.client(0, 4));
        due("to read is no transaction's trace", 0, g.at(1, 2, 2));
    }

    private static void whatItWroteItself() {
        TapirGroup g = new TapirGroup();
        g.begin(0);
        g.write(0, 3, 0);
        g.write(0, 4, 9);
        due("read its own write", 9, g.read(0, 4, 0));
        due("that is no read", 0, g.client(0, 3));
        g.power(0, false);
        due("read its own write, replica down", 9, g.read(0, 4, 0));
        g.read(0, 5, 1);
        g.write(0, 5, 11);
        due("read what it read and then wrote", 11, g.read(0, 5, 1));
        due("reads", 1, g.client(0, 3));
    }

    private static void whatWasSeenBefore() {
        TapirGroup g = new TapirGroup();
        commitWrite(g, 0, 1, 5, 10, 0, 1, 2);
        g.begin(1);
        due("read first", 5, g.read(1, 1, 0));
        commitWrite(g, 0, 1, 6, 20, 0, 1, 2);
        due("read again", 5, g.read(1, 1, 0));
        due("read again elsewhere", 5, g.read(1, 1, 2));
        g.power(2, false);
        due("read again, replica down", 5, g.read(1, 1, 2));
        due("reads", 1, g.client(1, 3));
        g.propose(1, 30);
        due("the version that was seen first counts", ABORT, g.prepare(1, 0));
    }
}
