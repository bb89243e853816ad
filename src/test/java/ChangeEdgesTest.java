import java.util.Arrays;

/** Promise 12, change, and the change of view: each sentence that names a boundary case. */
final class ChangeEdgesTest extends Edges {
    private static final int NOBODY = 3;

    public static void main(String[] args) {
        sentence("of all replicas that are up (two at least)", ChangeEdgesTest::twoAtLeast);
        sentence("fewer than two are up", ChangeEdgesTest::fewerThanTwo);
        sentence("All then have the next view (the group's and one)", ChangeEdgesTest::nextView);
        sentence("(of all that are up, in whatever views", ChangeEdgesTest::inWhateverViews);
        sentence("a transaction of which some of them has a record", ChangeEdgesTest::noRecords);
        sentence("(a record is made where there is none)", ChangeEdgesTest::recordsAreMade);
        sentence("applied, if it is at some", ChangeEdgesTest::appliedAtOne);
        sentence("dropped, if it is at some", ChangeEdgesTest::droppedAtOne);
        sentence("applied, if it is at some; dropped, if it is at some", ChangeEdgesTest::oneIsDown);
        sentence("To be applied or dropped changes neither the result nor FINAL of a record that there is.",
            ChangeEdgesTest::resultsStay);
        sentence("FINAL with that result, if it is at some of those with the greatest view among them",
            ChangeEdgesTest::finalAtOne);
        sentence("those with the greatest view among them", ChangeEdgesTest::finalInAnOldView);
        sentence("if two of them have the same result and that is not OK, that result, FINAL",
            ChangeEdgesTest::twoAlike);
        sentence("Those that wait: OK, if each of them had a record with OK, else ABORT; FINAL at all of them.",
            ChangeEdgesTest::thoseThatWait);
        sentence("the first of these", ChangeEdgesTest::everyMixOfRecords);
        sentence("Versions, values and reads at all of them become the greatest at any",
            ChangeEdgesTest::greatestAtAny);
        sentence("Versions, values and reads at all of them become the greatest at any",
            ChangeEdgesTest::oneMoreOrLess);
        sentence("what clients have stays", ChangeEdgesTest::whatClientsHave);
        close();
    }

    private static void twoAtLeast() {
        due("change of three", 1, new TapirGroup().change());
        for (int down = 0; down < 3; down++) {
            TapirGroup g = new TapirGroup();
            g.power(down, false);
            due("change of two", 1, g.change());
            for (int r = 0; r < 3; r++) {
                due("view of " + r, r == down ? 0 : 1, g.state(2 + r));
            }
        }
    }

    private static void fewerThanTwo() {
        for (int state : ALL_STATES) {
            for (int r = 0; r < 3; r++) {
                int up = r;
                refusedIn(() -> onlyUp(state, up), "change of " + r + " alone", STATE, TapirGroup::change);
            }
            refusedIn(() -> onlyUp(state, NOBODY), "change of none", STATE, TapirGroup::change);
        }
        TapirGroup g = onlyUp(SLOW, 1);
        refused("change of one", STATE, g::change);
        g.power(2, true);
        due("change of two, a refused one takes no view", 1, g.change());
    }

    private static TapirGroup onlyUp(int state, int up) {
        TapirGroup g = inState(state);
        for (int r = 0; r < 3; r++) {
            g.power(r, r == up);
        }
        return g;
    }

    private static void nextView() {
        TapirGroup g = new TapirGroup();
        int view = 0;
        for (int round = 0; round < 12; round++) {
            int down = round % 3;
            g.power((down + 2) % 3, true);
            g.power(down, false);
            int before = g.state(2 + down);
            view++;
            due("change", view, g.change());
            due("the group's view", view, g.state(0));
            due("view of the one that is down", before, g.state(2 + down));
            due("view of another", view, g.state(2 + (down + 1) % 3));
            due("view of the third", view, g.state(2 + (down + 2) % 3));
        }
    }

    private static void inWhateverViews() {
        TapirGroup g = inState(TO_COMMIT);
        g.power(2, false);
        g.change();
        g.finish(0, 1);
        g.power(2, true);
        g.power(0, false);
        due("change of view 1 and view 0", 2, g.change());
        due("record where the view was 0", OK | APPLIED, g.record(2, MINE));
        due("version where the view was 0", 40, g.at(2, WRITTEN_KEY, 0));
        TapirGroup back = inState(TO_COMMIT);
        back.finish(0, 2);
        back.power(2, false);
        back.change();
        due("record without the one that applied it", OK | FINAL, back.record(0, MINE));
        back.power(2, true);
        back.change();
        due("an old view gives what is applied", OK | FINAL | APPLIED, back.record(0, MINE));
        due("and its version", 40, back.at(0, WRITTEN_KEY, 0));
        due("its own record", OK | APPLIED, back.record(2, MINE));
    }

    private static void noRecords() {
        TapirGroup none = new TapirGroup();
        due("change of a new object", 1, none.change());
        due("transactions", 0, none.state(1));
        for (int state : new int[] {RUNNING, PROPOSED}) {
            TapirGroup g = inState(RUNNING);
            if (state == PROPOSED) {
                g.propose(0, 10);
            }
            g.change();
            for (int r = 0; r < 3; r++) {
                due("record at " + r + ", nowhere prepared", -1, g.record(r, MINE));
            }
        }
        for (int r = 0; r < 3; r++) {
            TapirGroup g = inState(RUNNING);
            g.propose(0, 10);
            g.prepare(0, r);
            g.power(r, false);
            g.change();
            for (int other = 0; other < 3; other++) {
                due("record at " + other + ", prepared where it is down", other == r ? OK : -1,
                    g.record(other, MINE));
            }
        }
    }

    private static void recordsAreMade() {
        for (int r = 0; r < 3; r++) {
            TapirGroup g = inState(RUNNING);
            g.propose(0, 10);
            g.prepare(0, r);
            g.change();
            for (int other = 0; other < 3; other++) {
                due("record at " + other + ", prepared at " + r, ABORT | FINAL, g.record(other, MINE));
            }
        }
    }

    private static void resultsStay() {
        int[] results = {OK, ABSTAIN, RETRY};
        for (int result : results) {
            TapirGroup applied = answered(OK, OK, result);
            applied.decide(0);
            if (result != OK) {
                applied.confirm(0, 0);
                applied.confirm(0, 1);
            }
            int before = applied.record(0, SUBJECT);
            applied.finish(0, 1);
            applied.change();
            due("a record, not final, of an applied one", result | APPLIED, applied.record(2, SUBJECT));
            due("a record of an applied one", before | APPLIED, applied.record(0, SUBJECT));
            TapirGroup dropped = answered(result, ABORT, ABORT);
            dropped.decide(0);
            dropped.confirm(0, 1);
            dropped.confirm(0, 2);
            dropped.finish(0, 1);
            dropped.change();
            due("a record, not final, of a dropped one", result | DROPPED, dropped.record(0, SUBJECT));
            due("a final record of a dropped one", ABORT | FINAL | DROPPED, dropped.record(2, SUBJECT));
        }
    }

    private static void appliedAtOne() {
        for (int r = 0; r < 3; r++) {
            TapirGroup g = inState(TO_COMMIT);
            g.finish(0, r);
            g.change();
            for (int other = 0; other < 3; other++) {
                due("record at " + other, OK | APPLIED, g.record(other, MINE));
                due("version at " + other, 40, g.at(other, WRITTEN_KEY, 0));
                due("value at " + other, 7, g.at(other, WRITTEN_KEY, 1));
                due("read at " + other, 40, g.at(other, READ_KEY, 2));
            }
        }
        TapirGroup made = inState(SLOW);
        made.confirm(0, 0);
        made.confirm(0, 1);
        made.finish(0, 0);
        made.change();
        due("a final record", OK | FINAL | APPLIED, made.record(1, MINE));
        due("a record that is made", OK | APPLIED, made.record(2, MINE));
    }

    private static void droppedAtOne() {
        for (int r = 0; r < 3; r++) {
            TapirGroup g = inState(TO_ABORT);
            g.finish(0, r);
            g.change();
            for (int other = 0; other < 3; other++) {
                due("record at " + other, ABORT | DROPPED, g.record(other, MINE));
                due("version at " + other, 0, g.at(other, WRITTEN_KEY, 0));
                due("read at " + other, 0, g.at(other, READ_KEY, 2));
            }
        }
        TapirGroup made = answered(OK, ABSTAIN, NOT_ASKED);
        made.decide(0);
        made.confirm(0, 1);
        made.confirm(0, 0);
        made.finish(0, 1);
        made.change();
        due("a final record", ABORT | FINAL | DROPPED, made.record(0, SUBJECT));
        due("a record that is made", ABORT | DROPPED, made.record(2, SUBJECT));
    }

    private static void finalAtOne() {
        for (int r = 0; r < 3; r++) {
            TapirGroup g = inState(SLOW);
            g.confirm(0, r);
            g.change();
            for (int other = 0; other < 3; other++) {
                due("record at " + other, OK | FINAL, g.record(other, MINE));
            }
            TapirGroup alike = answered(r == 0 ? ABORT : RETRY, r == 1 ? ABORT : RETRY, r == 2 ? ABORT : RETRY);
            alike.decide(0);
            alike.confirm(0, r);
            alike.change();
            for (int other = 0; other < 3; other++) {
                due("record at " + other + " beside two alike", ABORT | FINAL, alike.record(other, SUBJECT));
            }
        }
    }

    private static void finalInAnOldView() {
        for (int r = 0; r < 3; r++) {
            int other = (r + 1) % 3;
            int third = (r + 2) % 3;
            TapirGroup g = oldFinal(r);
            due("record of the old view", OK | FINAL, g.record(r, MINE));
            due("record of the new view", ABORT | FINAL, g.record(other, MINE));
            g.power(third, false);
            g.change();
            due("where the view was old", ABORT | FINAL, g.record(r, MINE));
            due("where the view was new", ABORT | FINAL, g.record(other, MINE));
            due("the one that is down keeps it", ABORT | FINAL, g.record(third, MINE));
            TapirGroup all = oldFinal(r);
            all.change();
            TapirGroup abort = oldFinalAbort(r);
            due("an ABORT of the old view", ABORT | FINAL, abort.record(r, SUBJECT));
            due("an OK of the new view", OK | FINAL, abort.record(other, SUBJECT));
            abort.change();
            TapirGroup two = oldFinalAbort(r);
            two.power(other, false);
            two.change();
            for (int each = 0; each < 3; each++) {
                due("record at " + each + " behind a change of all", ABORT | FINAL, all.record(each, MINE));
                due("record at " + each + " of an old ABORT", OK | FINAL, abort.record(each, SUBJECT));
                due("record at " + each + " of an old ABORT and one OK", OK | FINAL, two.record(each, SUBJECT));
            }
        }
    }

    /** Replica r, in view 0, has a final OK; the other two, in view 1, have a final ABORT. */
    private static TapirGroup oldFinal(int r) {
        TapirGroup g = inState(RUNNING);
        g.propose(0, 10);
        g.prepare(0, r);
        g.prepare(0, (r + 1) % 3);
        g.decide(0);
        g.confirm(0, r);
        g.power(r, false);
        g.change();
        g.power(r, true);
        return g;
    }

    /** Replica r, in view 0, has a final ABORT; the other two, in view 1, have a final OK. */
    private static TapirGroup oldFinalAbort(int r) {
        TapirGroup g = answered(r == 0 ? ABORT : OK, r == 1 ? ABORT : OK, r == 2 ? ABORT : OK);
        g.decide(0);
        g.confirm(0, r);
        g.power(r, false);
        g.change();
        g.power(r, true);
        return g;
    }

    private static void oneIsDown() {
        for (int state : new int[] {TO_COMMIT, TO_ABORT}) {
            for (int r = 0; r < 3; r++) {
                for (int down = 0; down < 3; down++) {
                    TapirGroup g = inState(state);
                    int before = g.record(down, MINE);
                    int finished = before | (state == TO_COMMIT ? APPLIED : DROPPED);
                    g.finish(0, r);
                    g.power(down, false);
                    g.change();
                    for (int other = 0; other < 3; other++) {
                        int want = r == other || other != down && r != down ? finished
                            : other == down ? before : before | FINAL;
                        due("record at " + other + ", finished at " + r + ", down is " + down, want,
                            g.record(other, MINE));
                    }
                }
            }
        }
    }

    private static void merges(int want, int down, int... records) {
        TapirGroup g = answered(records);
        if (down != NOBODY) {
            g.power(down, false);
        }
        g.change();
        for (int r = 0; r < 3; r++) {
            due("record at " + r + " of " + Arrays.toString(records) + " with " + down + " down",
                r == down ? records[r] : want, g.record(r, SUBJECT));
        }
    }

    private static void twoAlike() {
        for (int result : new int[] {ABSTAIN, ABORT, RETRY}) {
            merges(result | FINAL, NOBODY, result, result, OK);
            merges(result | FINAL, NOBODY, result, NOT_ASKED, result);
            merges(result | FINAL, NOBODY, OK, result, result);
            merges(result | FINAL, NOBODY, result, result, result);
            merges(result | FINAL, 2, result, result, OK);
            merges(result | FINAL, 0, OK, result, result);
            merges(ABORT | FINAL, 0, result, result, OK);
        }
        merges(ABORT | FINAL, NOBODY, OK, OK, RETRY);
        merges(RETRY | FINAL, NOBODY, RETRY, ABORT, RETRY);
    }

    private static void thoseThatWait() {
        merges(OK | FINAL, NOBODY, OK, OK, OK);
        merges(ABORT | FINAL, NOBODY, OK, OK, NOT_ASKED);
        merges(ABORT | FINAL, NOBODY, NOT_ASKED, OK, OK);
        merges(ABORT | FINAL, NOBODY, OK, ABSTAIN, OK);
        merges(ABORT | FINAL, NOBODY, OK, ABSTAIN, RETRY);
        merges(ABORT | FINAL, NOBODY, RETRY, NOT_ASKED, NOT_ASKED);
        merges(OK | FINAL, 2, OK, OK, RETRY);
        merges(OK | FINAL, 0, NOT_ASKED, OK, OK);
        merges(ABORT | FINAL, 1, OK, OK, NOT_ASKED);
        merges(ABORT | FINAL, 1, RETRY, RETRY, OK);
    }

    /** Each mix of records that are not final, at all three replicas or with one of them down. */
    private static void everyMixOfRecords() {
        for (int mix = 0; mix < 125; mix++) {
            int[] records = {mix % 5 - 1, mix / 5 % 5 - 1, mix / 25 - 1};
            for (int down = 0; down <= NOBODY; down++) {
                merges(merged(records, down), down, records);
            }
        }
    }

    private static int merged(int[] records, int down) {
        int members = down == NOBODY ? 3 : 2;
        int[] count = new int[5];
        for (int r = 0; r < 3; r++) {
            if (r != down) {
                count[records[r] + 1]++;
            }
        }
        if (count[0] == members) {
            return -1;
        }
        for (int result = ABSTAIN; result <= RETRY; result++) {
            if (count[result + 1] >= 2) {
                return result | FINAL;
            }
        }
        return (count[OK + 1] == members ? OK : ABORT) | FINAL;
    }

    private static void greatestAtAny() {
        int[] values = {Integer.MAX_VALUE, Integer.MIN_VALUE, -1};
        for (int key = 0; key < 6; key++) {
            for (int newest = 0; newest < 3; newest++) {
                TapirGroup g = new TapirGroup();
                for (int i = 1; i <= 3; i++) {
                    commitWrite(g, i, key, values[i - 1], 10 * i, (newest + i) % 3);
                }
                for (int i = 1; i <= 3; i++) {
                    commitRead(g, i, (key + 1) % 6, 50 + i, (newest + i) % 3);
                }
                due("version before the change", 123, g.at(newest, key, 0));
                g.change();
                for (int r = 0; r < 3; r++) {
                    due("version of key " + key + " at " + r, 123, g.at(r, key, 0));
                    due("value of key " + key + " at " + r, -1, g.at(r, key, 1));
                    due("read of the key behind " + key + " at " + r, 215, g.at(r, (key + 1) % 6, 2));
                    due("version of the key behind " + key + " at " + r, 0, g.at(r, (key + 1) % 6, 0));
                }
            }
        }
    }

    private static void oneMoreOrLess() {
        for (int more = 0; more < 2; more++) {
            TapirGroup g = new TapirGroup();
            for (int c = 0; c < 2; c++) {
                g.begin(c);
                g.read(c, 1, 0);
                g.write(c, 0, 100 - c);
                g.propose(c, 10);
                decideToCommit(g, c);
                g.finish(c, c == 1 ? more : 1 - more);
            }
            g.change();
            for (int r = 0; r < 3; r++) {
                due("version of 40 and 41 at " + r, 41, g.at(r, 0, 0));
                due("value at " + r, 99, g.at(r, 0, 1));
                due("read of 40 and 41 at " + r, 41, g.at(r, 1, 2));
            }
        }
    }

    private static void whatClientsHave() {
        for (int state : ALL_STATES) {
            for (int down = 0; down <= NOBODY; down++) {
                TapirGroup g = inState(state);
                TapirGroup untouched = inState(state);
                if (down != NOBODY) {
                    g.power(down, false);
                }
                g.change();
                for (int c = 0; c < 4; c++) {
                    for (int what = 0; what < 8; what++) {
                        due("client(" + c + ", " + what + ") in STATE " + state, untouched.client(c, what),
                            g.client(c, what));
                    }
                }
            }
        }
    }
}
