/** Runs of calls that bring a group to where a test wants it. */
abstract class Scenes extends Due {
    static final int OK = 0;
    static final int ABSTAIN = 1;
    static final int ABORT = 2;
    static final int RETRY = 3;
    static final int NOT_ASKED = -1;

    static final int FINAL = 4;
    static final int APPLIED = 8;
    static final int DROPPED = 16;

    static final int RUNNING = 1;
    static final int PROPOSED = 2;
    static final int SLOW = 3;
    static final int TO_COMMIT = 4;
    static final int TO_ABORT = 5;

    /** The number of client 0's transaction in answered(). */
    static final int SUBJECT = 2;

    /** A transaction that writes one key alone begins and is proposed. */
    static int proposeWrite(TapirGroup g, int client, int key, int value, int time) {
        int number = g.begin(client);
        g.write(client, key, value);
        g.propose(client, time);
        return number;
    }

    /** A transaction that reads one key alone begins and is proposed. */
    static int proposeRead(TapirGroup g, int client, int key, int from, int time) {
        int number = g.begin(client);
        g.read(client, key, from);
        g.propose(client, time);
        return number;
    }

    /** A proposed transaction is prepared everywhere and decided to commit, the fast way. */
    static void decideToCommit(TapirGroup g, int client) {
        for (int r = 0; r < 3; r++) {
            due("prepare(" + client + ", " + r + ") of the scene", OK, g.prepare(client, r));
        }
        due("decide(" + client + ") of the scene", OK, g.decide(client));
    }

    /** A write is committed and finished at these replicas; the client is free again. */
    static int commitWrite(TapirGroup g, int client, int key, int value, int time, int... at) {
        int number = proposeWrite(g, client, key, value, time);
        decideToCommit(g, client);
        finishAndEnd(g, client, at);
        return number;
    }

    /** A read is committed and finished at these replicas; the client is free again. */
    static int commitRead(TapirGroup g, int client, int key, int time, int... at) {
        int number = proposeRead(g, client, key, 0, time);
        decideToCommit(g, client);
        finishAndEnd(g, client, at);
        return number;
    }

    private static void finishAndEnd(TapirGroup g, int client, int... at) {
        for (int r : at) {
            due("finish(" + client + ", " + r + ") of the scene", true, g.finish(client, r));
        }
        g.end(client);
    }

    /**
     * A new group in which client 0's transaction (it reads key 0, writes key 1 and is proposed
     * with time 10) has been answered so by the replicas 0, 1 and 2.
     */
    static TapirGroup answered(int... wanted) {
        TapirGroup g = new TapirGroup();
        proposeWrite(g, 1, 0, 6, 11);
        due("begin(0) of the scene", SUBJECT, g.begin(0));
        g.read(0, 0, 0);
        g.write(0, 1, 5);
        g.propose(0, 10);
        proposeRead(g, 3, 1, 0, 20);
        // ABORT comes last: the write that brings it stays prepared at all other replicas.
        for (int result : new int[] {OK, RETRY, ABSTAIN, ABORT}) {
            for (int r = 0; r < 3; r++) {
                if (wanted[r] == result) {
                    bringAbout(g, r, result);
                    due("prepare(0, " + r + ") of the scene", result, g.prepare(0, r));
                }
            }
        }
        return g;
    }

    private static void bringAbout(TapirGroup g, int replica, int result) {
        if (result == RETRY) {
            g.prepare(3, replica);
        } else if (result == ABSTAIN) {
            g.prepare(1, replica);
        } else if (result == ABORT) {
            if (g.client(2, 0) == 0) {
                proposeWrite(g, 2, 0, 7, 30);
                decideToCommit(g, 2);
            }
            g.finish(2, replica);
        }
    }

    /** What can be seen of a group from outside, as one text (of the 512 calls it takes 95 and more). */
    static String seen(TapirGroup g) {
        StringBuilder text = new StringBuilder();
        int begun = g.state(1);
        for (int what = 0; what < 8; what++) {
            text.append(g.state(what)).append(' ');
        }
        for (int c = 0; c < 4; c++) {
            text.append("| ");
            for (int what = 0; what < 8; what++) {
                text.append(g.client(c, what)).append(' ');
            }
        }
        for (int r = 0; r < 3; r++) {
            text.append("| ");
            for (int key = 0; key < 6; key++) {
                for (int what = 0; what < 3; what++) {
                    text.append(g.at(r, key, what)).append(' ');
                }
            }
            for (int number = 1; number <= begun; number++) {
                text.append(g.record(r, number)).append(' ');
            }
        }
        return text.toString();
    }
}
