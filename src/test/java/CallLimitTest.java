import java.util.function.IntConsumer;

/** The limit of 512 calls on one object: the 512th is as good as the first. */
final class CallLimitTest extends Edges {
    private static final int LIMIT = 512;

    public static void main(String[] args) {
        sentence("An object is used for at most 512 calls", CallLimitTest::changes);
        sentence("An object is used for at most 512 calls", CallLimitTest::refusedOnes);
        sentence("An object is used for at most 512 calls", CallLimitTest::queries);
        sentence("An object is used for at most 512 calls", CallLimitTest::proposals);
        sentence("An object is used for at most 512 calls", CallLimitTest::readsAndWrites);
        sentence("An object is used for at most 512 calls", CallLimitTest::messages);
        sentence("An object is used for at most 512 calls", CallLimitTest::powers);
        sentence("An object is used for at most 512 calls", CallLimitTest::transactions);
        sentence("what later calls answer is free", CallLimitTest::later);
        close();
    }

    private static void changes() {
        TapirGroup g = new TapirGroup();
        for (int call = 1; call <= LIMIT; call++) {
            due("change, call " + call, call, g.change());
        }
    }

    private static void refusedOnes() {
        TapirGroup g = new TapirGroup();
        for (int call = 1; call < LIMIT; call++) {
            int no = call % 2 == 0 ? -1 : 4;
            refused("begin, call " + call, ARGUMENT, () -> g.begin(no));
        }
        due("begin, call 512", 1, g.begin(0));
        TapirGroup again = new TapirGroup();
        again.begin(0);
        for (int call = 2; call < LIMIT; call++) {
            refused("begin again, call " + call, STATE, () -> again.begin(0));
        }
        due("begin of another, call 512", 2, again.begin(1));
    }

    private static void queries() {
        TapirGroup g = new TapirGroup();
        for (int call = 1; call < LIMIT; call++) {
            due("client, call " + call, 0, g.client(call % 4, 0));
        }
        due("begin, call 512", 1, g.begin(3));
    }

    private static void proposals() {
        TapirGroup g = new TapirGroup();
        g.begin(0);
        for (int call = 2; call < LIMIT; call++) {
            g.propose(0, call);
        }
        due("timestamp, call 512", 4 * 511, g.client(0, 2));
    }

    private static void readsAndWrites() {
        TapirGroup g = new TapirGroup();
        g.begin(0);
        g.begin(1);
        for (int call = 3; call <= LIMIT - 2; call += 2) {
            g.write(0, 5, call);
            due("read, call " + call, 0, g.read(1, 5, 0));
        }
        due("writes, call 511", 1, g.client(0, 4));
        due("the last write, call 512", 509, g.read(0, 5, 0));
    }

    private static void messages() {
        TapirGroup answers = new TapirGroup();
        proposeWrite(answers, 0, 0, 1, 1);
        for (int call = 4; call <= LIMIT; call++) {
            due("prepare, call " + call, OK, answers.prepare(0, 0));
        }
        TapirGroup confirms = new TapirGroup();
        proposeWrite(confirms, 0, 0, 1, 1);
        confirms.prepare(0, 0);
        confirms.prepare(0, 1);
        confirms.decide(0);
        for (int call = 7; call < LIMIT; call++) {
            due("confirm, call " + call, 1, confirms.confirm(0, 1));
        }
        due("confirm, call 512", 2, confirms.confirm(0, 2));
        TapirGroup finishes = new TapirGroup();
        proposeWrite(finishes, 0, 0, 1, 1);
        decideToCommit(finishes, 0);
        due("finish, call 8", true, finishes.finish(0, 0));
        for (int call = 9; call < LIMIT; call++) {
            due("finish, call " + call, false, finishes.finish(0, 0));
        }
        due("finish, call 512", true, finishes.finish(0, 1));
    }

    private static void powers() {
        TapirGroup g = new TapirGroup();
        for (int call = 1; call < LIMIT; call++) {
            due("power, call " + call, true, g.power(1, call % 2 == 0));
        }
        due("state(6), call 512", 0, g.state(6));
    }

    /** 60 transactions take 480 calls, and then 30 changes keep what all of them left. */
    private static void transactions() {
        TapirGroup g = new TapirGroup();
        for (int number = 1; number <= 60; number++) {
            int c = number % 4;
            proposeWrite(g, c, number % 6, number, number);
            decideToCommit(g, c);
            g.end(c);
        }
        for (int view = 1; view <= 30; view++) {
            due("change", view, g.change());
        }
        due("record(0, 1), call 511", OK | FINAL, g.record(0, 1));
        due("record(2, 60), call 512", OK | FINAL, g.record(2, 60));
    }

    /** Whatever they answer: a call of any kind ends, and throws nothing that its face does not name. */
    private static void later() {
        TapirGroup g = inState(RUNNING);
        IntConsumer[] kinds = {i -> g.begin(i % 5), i -> g.read(i % 5, i % 7, i % 4), i -> g.write(i % 5, i % 7, i),
            i -> g.propose(i % 5, i), i -> g.prepare(i % 5, i % 4), i -> g.decide(i % 5),
            i -> g.confirm(i % 5, i % 4), i -> g.finish(i % 5, i % 4), i -> g.end(i % 5),
            i -> g.power(i % 4, i % 3 > 0), i -> g.change(), i -> g.client(i % 5, i % 9),
            i -> g.at(i % 4, i % 7, i % 4), i -> g.record(i % 4, i % 62), i -> g.state(i % 9)};
        for (int i = 0; i < 40000; i++) {
            try {
                kinds[(i / 3 + i / 700) % kinds.length].accept(i);
            } catch (RuntimeException e) {
                Class<?> kind = e.getClass();
                due("a later call throws " + kind, true, kind == ARGUMENT || kind == STATE || kind == UNSUPPORTED
                    || kind == BOUNDS && (i / 3 + i / 700) % kinds.length <= 2);
            }
        }
    }
}
