/** Promise 11: power. */
final class PowerTest extends Scenes {
    public static void main(String[] args) {
        downAndUp();
        whatItKnewStays();
        close();
    }

    private static void downAndUp() {
        TapirGroup g = new TapirGroup();
        for (int r = 0; r < 3; r++) {
            due("up when up", false, g.power(r, true));
            due("down", true, g.power(r, false));
            due("state", 0, g.state(5 + r));
            due("down when down", false, g.power(r, false));
        }
        due("up", true, g.power(1, true));
        due("state(5)", 0, g.state(5));
        due("state(6)", 1, g.state(6));
        due("state(7)", 0, g.state(7));
    }

    private static void whatItKnewStays() {
        TapirGroup g = new TapirGroup();
        commitWrite(g, 0, 1, 7, 10, 0, 1, 2);
        commitRead(g, 1, 1, 20, 0, 1, 2);
        g.power(2, false);
        due("version when down", 40, g.at(2, 1, 0));
        g.change();
        g.power(2, true);
        due("version", 40, g.at(2, 1, 0));
        due("value", 7, g.at(2, 1, 1));
        due("read by", 81, g.at(2, 1, 2));
        due("record", OK | APPLIED, g.record(2, 1));
        due("view", 0, g.state(4));
        due("the group's view", 1, g.state(0));
    }
}
