import java.util.Arrays;
import java.util.function.Consumer;
import java.util.function.IntSupplier;
import java.util.function.Supplier;

/** What the tests of boundary cases share: arguments that there are none of, and refused calls. */
abstract class Edges extends Scenes {
    static final int[] NO_CLIENT = {-1, 4, Integer.MIN_VALUE, Integer.MAX_VALUE};
    static final int[] NO_KEY = {-1, 6, Integer.MIN_VALUE, Integer.MAX_VALUE};
    static final int[] NO_REPLICA = {-1, 3, Integer.MIN_VALUE, Integer.MAX_VALUE};
    static final int[] NO_TIME = {0, -1, 1000001, Integer.MIN_VALUE, Integer.MAX_VALUE};
    static final int LAST_TIME = 1000000;

    /** Beside the STATEs of a transaction, for inState(): there is none, since it ended or from the first. */
    static final int ENDED = 0;
    static final int NEVER = -1;
    static final int[] ALL_STATES = {NEVER, ENDED, RUNNING, PROPOSED, SLOW, TO_COMMIT, TO_ABORT};

    /** Client 0's transaction in inState(). */
    static final int MINE = 2;
    /** What it reads, what it writes, and a key that it has nothing to do with. */
    static final int READ_KEY = 0;
    static final int WRITTEN_KEY = 2;
    static final int OTHER_KEY = 3;

    /**
     * A new group in which client 0's transaction has come to this STATE: it reads 6 from key 0
     * (version 5) and 0 from key 1, writes 7 to key 2, and is proposed with time 10. When proposed
     * or slow it has an OK of the replicas 0 and 1. All other clients have none.
     */
    static TapirGroup inState(int state) {
        TapirGroup g = new TapirGroup();
        commitWrite(g, 1, READ_KEY, 6, 1, 0, 1, 2);
        if (state == NEVER) {
            return g;
        }
        g.begin(0);
        g.read(0, READ_KEY, 0);
        g.read(0, 1, 0);
        g.write(0, WRITTEN_KEY, 7);
        if (state == RUNNING) {
            return g;
        }
        g.propose(0, 10);
        if (state == TO_ABORT) {
            commitWrite(g, 1, 1, 8, 11, 0, 1, 2);
        }
        g.prepare(0, 0);
        g.prepare(0, 1);
        if (state == SLOW) {
            g.decide(0);
        } else if (state != PROPOSED) {
            g.prepare(0, 2);
            g.decide(0);
        }
        if (state == ENDED) {
            g.end(0);
        }
        due("STATE of the scene", state, g.client(0, 0));
        return g;
    }

    /** inState(), but replica 2 is down. */
    static TapirGroup withOneDown(int state) {
        TapirGroup g = inState(state);
        g.power(2, false);
        return g;
    }

    /** inState(), but replica 2 is up in view 0, and the group's view is 1. */
    static TapirGroup withAnOldView(int state) {
        TapirGroup g = withOneDown(state);
        g.change();
        g.power(2, true);
        return g;
    }

    /** inState(), but replica 2 alone is up, in view 0, and the group's view is 1. */
    static TapirGroup withAnOldViewAlone(int state) {
        TapirGroup g = withAnOldView(state);
        g.power(0, false);
        g.power(1, false);
        return g;
    }

    /**
     * In this scene the call is refused so and changes nothing: neither what can be seen, nor what
     * only later calls tell (a time that was used, a value or a version that was seen).
     */
    static void refusedIn(Supplier<TapirGroup> scene, String what, Class<?> want, Consumer<TapirGroup> call) {
        TapirGroup g = scene.get();
        TapirGroup untouched = scene.get();
        refused(what, want, () -> call.accept(g));
        due("what is seen behind the refused " + what, seen(untouched), seen(g));
        due("what comes behind the refused " + what, lifeGoesOn(untouched), lifeGoesOn(g));
    }

    /** In each of these STATEs of client 0 the call is refused so and changes nothing. */
    static void refusedInStates(int[] states, String what, Class<?> want, Consumer<TapirGroup> call) {
        for (int state : states) {
            refusedIn(() -> inState(state), what + " in STATE " + state, want, call);
        }
    }

    /** Where replica 2 does not serve, client 0 being in this STATE, the call is refused and changes nothing. */
    static void refusedWithoutService(int state, String what, Consumer<TapirGroup> call) {
        refusedIn(() -> withOneDown(state), what + ", down", UNSUPPORTED, call);
        refusedIn(() -> withAnOldView(state), what + ", in an old view", UNSUPPORTED, call);
        refusedIn(() -> withAnOldViewAlone(state), what + ", in an old view, alone", UNSUPPORTED, call);
    }

    static int[] allStatesBut(int... some) {
        return Arrays.stream(ALL_STATES)
            .filter(state -> Arrays.stream(some).noneMatch(one -> one == state)).toArray();
    }

    /** Every client ends what it has and begins anew: the answers of 140 calls as one text. */
    private static String lifeGoesOn(TapirGroup g) {
        StringBuilder text = new StringBuilder();
        for (int client = 0; client < 4; client++) {
            int c = client;
            settle(text, g, c);
            tell(text, () -> g.begin(c));
            for (int k = 0; k < 6; k++) {
                int key = k;
                tell(text, () -> g.read(c, key, 0));
            }
            for (int k = 0; k < 6; k++) {
                int key = k;
                tell(text, () -> run(() -> g.write(c, key, 10 * c + key)));
            }
            tell(text, () -> run(() -> g.propose(c, 6)));
            tell(text, () -> run(() -> g.propose(c, 40 + c)));
            for (int r = 0; r < 3; r++) {
                int replica = r;
                tell(text, () -> g.prepare(c, replica));
            }
            settle(text, g, c);
        }
        return text.append(seen(g)).toString();
    }

    private static void settle(StringBuilder text, TapirGroup g, int c) {
        tell(text, () -> g.decide(c));
        for (int r = 0; r < 3; r++) {
            int replica = r;
            tell(text, () -> g.confirm(c, replica));
            tell(text, () -> g.finish(c, replica) ? 1 : 0);
        }
        tell(text, () -> run(() -> g.end(c)));
    }

    private static int run(Runnable call) {
        call.run();
        return 0;
    }

    private static void tell(StringBuilder text, IntSupplier call) {
        try {
            text.append(call.getAsInt());
        } catch (RuntimeException e) {
            text.append(e.getClass().getSimpleName());
        }
        text.append(' ');
    }
}
