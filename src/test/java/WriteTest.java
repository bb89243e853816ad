/** Promise 4: write. */
final class WriteTest extends Scenes {
    public static void main(String[] args) {
        writesAndWritesAgain();
        close();
    }

    private static void writesAndWritesAgain() {
        TapirGroup g = new TapirGroup();
        g.begin(3);
        g.write(3, 0, Integer.MIN_VALUE);
        g.write(3, 5, 4);
        g.write(3, 5, Integer.MAX_VALUE);
        due("writes", 2, g.client(3, 4));
        due("reads", 0, g.client(3, 3));
        due("read of key 0", Integer.MIN_VALUE, g.read(3, 0, 0));
        due("read of key 5", Integer.MAX_VALUE, g.read(3, 5, 0));
        due("at a replica nothing is seen yet", 0, g.at(0, 5, 1));
        g.propose(3, 2);
        decideToCommit(g, 3);
        g.finish(3, 1);
        due("at(1, 0, 1)", Integer.MIN_VALUE, g.at(1, 0, 1));
        due("at(1, 5, 1)", Integer.MAX_VALUE, g.at(1, 5, 1));
    }
}
