/** Promise 1: a new object. */
final class NewObjectTest extends Scenes {
    public static void main(String[] args) {
        sentence("Three replicas that are up, in view 0", NewObjectTest::replicas);
        sentence("no transactions", NewObjectTest::noTransactions);
        sentence("A new object", NewObjectTest::objectsShareNothing);
        close();
    }

    private static void replicas() {
        TapirGroup g = new TapirGroup();
        due("the group's view", 0, g.state(0));
        for (int r = 0; r < 3; r++) {
            due("view of " + r, 0, g.state(2 + r));
            due("whether " + r + " is up", 1, g.state(5 + r));
            for (int key = 0; key < 6; key++) {
                for (int what = 0; what < 3; what++) {
                    due("at(" + r + ", " + key + ", " + what + ")", 0, g.at(r, key, what));
                }
            }
        }
    }

    private static void noTransactions() {
        TapirGroup g = new TapirGroup();
        due("transactions ever", 0, g.state(1));
        for (int c = 0; c < 4; c++) {
            for (int what = 0; what < 8; what++) {
                due("client(" + c + ", " + what + ")", what == 7 ? -1 : 0, g.client(c, what));
            }
        }
        for (int r = 0; r < 3; r++) {
            for (int number = 1; number <= 60; number++) {
                due("record(" + r + ", " + number + ")", -1, g.record(r, number));
            }
        }
    }

    private static void objectsShareNothing() {
        TapirGroup used = new TapirGroup();
        TapirGroup other = new TapirGroup();
        String before = seen(other);
        commitWrite(used, 0, 1, 7, 10, 0, 1, 2);
        used.power(1, false);
        used.change();
        due("another object", before, seen(other));
        due("an object made later", before, seen(new TapirGroup()));
    }
}
