/**
 * Long runs of calls of every kind, with right and wrong arguments: a call throws what its face
 * names and nothing else, and a call that is refused changes nothing (a second object that gets
 * the other calls alone answers the same).
 */
final class StormTest extends Scenes {
    private static final int RUNS = 3000;
    /** What is seen at the end must fit into the 512 calls of an object, too. */
    private static final int CALLS = 230;
    private static final String[] NAMES = {"begin", "read", "write", "propose", "prepare", "decide", "confirm",
        "finish", "end", "power", "change", "client", "at", "record", "state"};
    /** What each of them may throw: A, S, U or B for the four kinds of exception. */
    private static final String[] THROWS = {"AS", "ASUB", "ASB", "AS", "ASU", "AS", "ASU",
        "ASU", "AS", "A", "S", "", "", "", ""};
    /** How often each is called: a run is to come as far as changes of view and ended transactions. */
    private static final int[] WEIGHTS = {10, 6, 6, 4, 36, 12, 24, 16, 4, 2, 1, 1, 1, 1, 1};

    private static long seed = 20261115;

    public static void main(String[] args) {
        for (int run = 1; run <= RUNS; run++) {
            storm(run);
        }
        close();
    }

    private static void storm(int run) {
        TapirGroup all = new TapirGroup();
        TapirGroup taken = new TapirGroup();
        for (int i = 0; i < CALLS; i++) {
            int kind = nextKind();
            int[] words = {argument(kind, 0, i), argument(kind, 1, i), argument(kind, 2, i)};
            String what = "run " + run + ", call " + i + ": " + NAMES[kind] + java.util.Arrays.toString(words);
            try {
                long answer = call(all, kind, words);
                due(what, answer, call(taken, kind, words));
            } catch (RuntimeException e) {
                due(what + " may throw " + e, true, THROWS[kind].indexOf(letter(e)) >= 0);
            }
        }
        due("run " + run + ", at its end", seen(taken), seen(all));
    }

    private static char letter(RuntimeException e) {
        Class<?> kind = e.getClass();
        return kind == ARGUMENT ? 'A' : kind == STATE ? 'S' : kind == UNSUPPORTED ? 'U' : kind == BOUNDS ? 'B' : '?';
    }

    private static long call(TapirGroup g, int kind, int[] w) {
        switch (kind) {
            case 0: return g.begin(w[0]);
            case 1: return g.read(w[0], w[1], w[2]);
            case 2: g.write(w[0], w[1], w[2]); return 0;
            case 3: g.propose(w[0], w[1]); return 0;
            case 4: return g.prepare(w[0], w[1]);
            case 5: return g.decide(w[0]);
            case 6: return g.confirm(w[0], w[1]);
            case 7: return g.finish(w[0], w[1]) ? 1 : 0;
            case 8: g.end(w[0]); return 0;
            case 9: return g.power(w[0], w[1] % 3 < 2) ? 1 : 0;
            case 10: return g.change();
            case 11: return g.client(w[0], w[1]);
            case 12: return g.at(w[0], w[1], w[2]);
            case 13: return g.record(w[0], w[1]);
            default: return g.state(w[0]);
        }
    }

    private static int argument(int kind, int place, int i) {
        if (next(60) == 0) {
            return new int[] {-1, 3, 4, 6, 8, 61, Integer.MIN_VALUE, Integer.MAX_VALUE}[next(8)];
        }
        if (kind == 3 && place == 1) {
            return 1 + i / 3 + next(8);
        }
        return next(place == 0 && kind != 9 && kind < 12 ? 4 : 3);
    }

    private static int nextKind() {
        int sum = 0;
        for (int weight : WEIGHTS) {
            sum += weight;
        }
        int left = next(sum);
        for (int kind = 0; kind < WEIGHTS.length; kind++) {
            left -= WEIGHTS[kind];
            if (left < 0) {
                return kind;
            }
        }
        return 0;
    }

    /** Numbers that are spread but the same in every run. */
    private static int next(int bound) {
        seed = seed * 6364136223846793005L + 1442695040888963407L;
        return (int) ((seed >>> 33) % bound);
    }
}
