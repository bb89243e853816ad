/** Promise 2, begin: each sentence that names a boundary case. */
final class BeginEdgesTest extends Edges {
    public static void main(String[] args) {
        sentence("Transactions have numbers 1, 2, .. as they begin", BeginEdgesTest::theFirstNumbers);
        sentence("CLIENTS 0 to 3", BeginEdgesTest::firstAndLastClient);
        sentence("there is no such client", BeginEdgesTest::noSuchClient);
        sentence("it has one (not ended yet)", BeginEdgesTest::hasOne);
        sentence("there were 60 (of all clients)", BeginEdgesTest::sixtyOfAllClients);
        sentence("there were 60 (of all clients)", BeginEdgesTest::sixtyOfOneClient);
        sentence("there were 60 (of all clients)", BeginEdgesTest::theSixtiethIsWhole);
        close();
    }

    private static void theFirstNumbers() {
        TapirGroup g = new TapirGroup();
        due("transactions before the first", 0, g.state(1));
        due("the first", 1, g.begin(2));
        refused("begin of client 2 again", STATE, () -> g.begin(2));
        refused("begin of client 4", ARGUMENT, () -> g.begin(4));
        due("the second, a refused one takes no number", 2, g.begin(0));
    }

    private static void firstAndLastClient() {
        for (int c = 0; c < 4; c++) {
            TapirGroup g = new TapirGroup();
            due("begin(" + c + ")", 1, g.begin(c));
            for (int other = 0; other < 4; other++) {
                due("STATE of client " + other, other == c ? RUNNING : 0, g.client(other, 0));
            }
        }
    }

    private static void noSuchClient() {
        for (int no : NO_CLIENT) {
            refusedIn(TapirGroup::new, "begin(" + no + ")", ARGUMENT, g -> g.begin(no));
            refusedIn(() -> inState(RUNNING), "begin(" + no + ")", ARGUMENT, g -> g.begin(no));
        }
    }

    private static void hasOne() {
        refusedInStates(allStatesBut(NEVER, ENDED), "begin(0)", STATE, g -> g.begin(0));
        for (int state : ALL_STATES) {
            TapirGroup g = inState(state);
            int next = g.state(1) + 1;
            due("begin of another one in STATE " + state, next, g.begin(3));
        }
        due("begin(0) of one that ended", MINE + 1, inState(ENDED).begin(0));
    }

    /** A transaction that reads and writes nothing begins and ends: 7 calls. */
    private static int pass(TapirGroup g, int client, int time) {
        int number = g.begin(client);
        g.propose(client, time);
        decideToCommit(g, client);
        g.end(client);
        return number;
    }

    private static void sixtyOfAllClients() {
        TapirGroup g = new TapirGroup();
        for (int number = 1; number <= 57; number++) {
            due("a number", number, pass(g, number % 4, number));
        }
        due("begin(1)", 58, g.begin(1));
        due("begin(2)", 59, g.begin(2));
        refused("begin(2) again", STATE, () -> g.begin(2));
        due("transactions before the last", 59, g.state(1));
        due("begin(3)", 60, g.begin(3));
        refused("begin(0) behind 60", STATE, () -> g.begin(0));
        refused("begin(3) behind 60", STATE, () -> g.begin(3));
        for (int no : NO_CLIENT) {
            refused("begin(" + no + ") behind 60", ARGUMENT, () -> g.begin(no));
        }
        due("transactions ever", 60, g.state(1));
        for (int what = 0; what < 8; what++) {
            due("client(0, " + what + ")", what == 7 ? -1 : 0, g.client(0, what));
        }
        due("number of client 3's", 60, g.client(3, 1));
    }

    private static void sixtyOfOneClient() {
        TapirGroup g = new TapirGroup();
        for (int number = 1; number <= 60; number++) {
            due("a number", number, pass(g, 3, number));
        }
        for (int c = 0; c < 4; c++) {
            int client = c;
            refused("begin(" + c + ") behind 60 of client 3", STATE, () -> g.begin(client));
            due("STATE of client " + c, 0, g.client(c, 0));
        }
        due("transactions ever", 60, g.state(1));
    }

    private static void theSixtiethIsWhole() {
        TapirGroup g = new TapirGroup();
        for (int number = 1; number <= 58; number++) {
            pass(g, 0, number);
        }
        g.begin(1);
        g.begin(3);
        g.read(3, 5, 2);
        g.write(3, 4, 9);
        g.propose(3, 70);
        due("record before prepare", -1, g.record(1, 60));
        due("prepare", OK, g.prepare(3, 1));
        due("record", OK, g.record(1, 60));
        g.read(1, 4, 0);
        g.propose(1, 60);
        due("a check against the sixtieth", ABSTAIN, g.prepare(1, 1));
        g.prepare(3, 0);
        g.prepare(3, 2);
        due("decide", OK, g.decide(3));
        due("finish", true, g.finish(3, 0));
        g.change();
        due("record behind a change", OK | APPLIED, g.record(2, 60));
        due("version behind a change", 283, g.at(2, 4, 0));
        g.end(3);
        refused("begin(3) behind 60", STATE, () -> g.begin(3));
    }
}
