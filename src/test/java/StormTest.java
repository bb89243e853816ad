import java.lang.reflect.InvocationTargetException;
import java.lang.reflect.Method;
import java.util.Arrays;

/**
 * Runs of calls of every kind, with right and wrong arguments, on an object and on the Model at
 * once: each call answers or throws the same, and at the end all that can be seen is the same.
 */
final class StormTest extends Due {
    private static final int RUNS = 4000;
    /** What is looked at in the end must fit into the 512 calls of an object, too. */
    private static final int MOST_CALLS = 320;
    private static final String[] NAMES = {"begin", "read", "write", "propose", "prepare", "decide", "confirm",
        "finish", "end", "power", "change", "client", "at", "record", "state"};
    /** How often each is called: a run is to come as far as changes of view and ended transactions. */
    private static final int[] CALM = {10, 8, 8, 4, 36, 12, 24, 16, 4, 2, 1, 1, 1, 1, 1};
    /** With few answers to a transaction and many changes of view, replicas know different things. */
    private static final int[] ROUGH = {14, 10, 8, 8, 20, 14, 18, 8, 6, 8, 3, 1, 1, 1, 1};
    private static final int[] ODD = {-1, 0, 3, 4, 5, 6, 7, 8, 60, 61, 1000000, 1000001, Integer.MIN_VALUE,
        Integer.MAX_VALUE};

    private static final Method[] OF_GROUP = new Method[NAMES.length];
    private static final Method[] OF_MODEL = new Method[NAMES.length];

    private static long seed = 20261115;

    public static void main(String[] args) throws ReflectiveOperationException {
        for (Method method : TapirGroup.class.getMethods()) {
            int kind = Arrays.asList(NAMES).indexOf(method.getName());
            if (kind >= 0) {
                OF_GROUP[kind] = method;
                OF_MODEL[kind] = Model.class.getDeclaredMethod(method.getName(), method.getParameterTypes());
            }
        }
        for (int run = 1; run <= RUNS; run++) {
            storm(run);
        }
        close();
    }

    private static void storm(int run) throws ReflectiveOperationException {
        TapirGroup group = new TapirGroup();
        Model model = new Model();
        // With few keys transactions meet more often, with all of them they get full.
        int keys = 1 + next(6);
        int calls = 20 + next(MOST_CALLS - 19);
        int[] weights = run % 2 == 0 ? CALM : ROUGH;
        for (int i = 0; i < calls; i++) {
            int kind = nextKind(weights);
            same("run " + run + ", call " + i, group, model, kind, arguments(kind, keys, i));
        }
        for (int what = 0; what < 8; what++) {
            same("run " + run + ", at its end", group, model, 14, what);
            for (int c = 0; c < 4; c++) {
                same("run " + run + ", at its end", group, model, 11, c, what);
            }
        }
        for (int r = 0; r < 3; r++) {
            for (int key = 0; key < 6; key++) {
                for (int what = 0; what < 3; what++) {
                    same("run " + run + ", at its end", group, model, 12, r, key, what);
                }
            }
            for (int number = 1; number <= model.state(1); number++) {
                same("run " + run + ", at its end", group, model, 13, r, number);
            }
        }
    }

    private static void same(String when, TapirGroup group, Model model, int kind, Object... words)
            throws ReflectiveOperationException {
        String want = answer(OF_MODEL[kind], model, words);
        String got = answer(OF_GROUP[kind], group, words);
        due(when + ": " + NAMES[kind] + Arrays.toString(words), want, got);
    }

    private static String answer(Method call, Object on, Object... words) throws ReflectiveOperationException {
        try {
            return String.valueOf(call.invoke(on, words));
        } catch (InvocationTargetException e) {
            return e.getCause().getClass().getSimpleName();
        }
    }

    private static Object[] arguments(int kind, int keys, int i) {
        boolean odd = next(25) == 0;
        int first = kind >= 12 || kind == 9 ? next(3) : next(4);
        switch (NAMES[kind]) {
            case "change":
                return new Object[0];
            case "begin", "decide", "end":
                return new Object[] {odd ? oddOne() : first};
            case "state":
                return new Object[] {odd ? oddOne() : next(8)};
            case "power":
                return new Object[] {odd ? oddOne() : first, next(3) > 0};
            case "read":
                return withOdd(odd, first, next(keys), next(3));
            case "write":
                return withOdd(odd, first, next(keys), next(100) - 50);
            case "at":
                return withOdd(odd, first, next(keys), next(3));
            case "propose":
                return withOdd(odd, first, 1 + i / 3 + next(8));
            case "client":
                return withOdd(odd, first, next(8));
            case "record":
                return withOdd(odd, first, 1 + next(12));
            default:
                return withOdd(odd, first, next(3));
        }
    }

    private static Object[] withOdd(boolean odd, Object... words) {
        if (odd) {
            words[next(words.length)] = oddOne();
        }
        return words;
    }

    private static int oddOne() {
        return ODD[next(ODD.length)];
    }

    private static int nextKind(int[] weights) {
        int sum = 0;
        for (int weight : weights) {
            sum += weight;
        }
        int left = next(sum);
        for (int kind = 0; kind < weights.length; kind++) {
            left -= weights[kind];
            if (left < 0) {
                return kind;
            }
        }
        return 0;
    }

    /** Numbers that are spread but the same in every run. */
    private static int next(int bound) {
        seed = seed * 6364136223846793005L + 1442695040888963407L;
        return (int) ((seed >>> 33) % bound);
    }
}
