import java.util.ArrayList;
import java.util.Collections;
import java.util.HashMap;
import java.util.HashSet;
import java.util.List;
import java.util.Map;
import java.util.Set;
import java.util.TreeMap;
import java.util.TreeSet;

/**
 * The document said once more in Java, sentence by sentence, with no thought for room or speed and
 * nothing shared with TapirGroup: StormTest holds the two against each other.
 */
final class Model {
    /** In the order of their numbers. */
    private enum Result { OK, ABSTAIN, ABORT, RETRY }

    private static final class Entry {
        Result result;
        boolean isFinal;
        boolean applied;
        boolean dropped;

        Entry(Result result) {
            this.result = result;
        }

        boolean prepared() {
            return result == Result.OK && !applied && !dropped;
        }
    }

    private static final class Work {
        int number;
        int timestamp;
        final Map<Integer, Integer> versionSeen = new HashMap<>();
        final Map<Integer, Integer> valueSeen = new HashMap<>();
        final Map<Integer, Integer> writes = new HashMap<>();
    }

    private static final class Person {
        Work work;
        String state = "none";
        Result slow;
        final Set<Integer> timesUsed = new HashSet<>();
        final Map<Integer, Result> answers = new TreeMap<>();
        final Set<Integer> confirmed = new HashSet<>();
    }

    private static final class Site {
        boolean up = true;
        int view;
        final Map<Integer, Integer> version = new HashMap<>();
        final Map<Integer, Integer> value = new HashMap<>();
        final Map<Integer, Integer> readBy = new HashMap<>();
        final Map<Integer, Entry> entries = new TreeMap<>();

        int versionOf(int key) {
            return version.getOrDefault(key, 0);
        }

        int valueOf(int key) {
            return value.getOrDefault(key, 0);
        }

        int readOf(int key) {
            return readBy.getOrDefault(key, 0);
        }
    }

    private static final List<String> STATES = List.of("none", "running", "proposed", "slow", "to commit", "to abort");

    private final List<Person> people = List.of(new Person(), new Person(), new Person(), new Person());
    private final List<Site> sites = List.of(new Site(), new Site(), new Site());
    private final Map<Integer, Work> ever = new HashMap<>();

    int begin(int client) {
        Person person = person(client);
        refuseUnless(person.work == null && ever.size() < 60);
        Work work = new Work();
        work.number = ever.size() + 1;
        ever.put(work.number, work);
        person.work = work;
        person.state = "running";
        person.answers.clear();
        person.confirmed.clear();
        return work.number;
    }

    int read(int client, int key, int replica) {
        Person person = person(client);
        hasKey(key);
        Site site = site(replica);
        refuseUnless(person.state.equals("running"));
        Work work = person.work;
        if (work.writes.containsKey(key)) {
            return work.writes.get(key);
        }
        if (work.valueSeen.containsKey(key)) {
            return work.valueSeen.get(key);
        }
        mustServe(site);
        if (work.versionSeen.size() == 4) {
            throw new IndexOutOfBoundsException();
        }
        work.versionSeen.put(key, site.versionOf(key));
        work.valueSeen.put(key, site.valueOf(key));
        return site.valueOf(key);
    }

    void write(int client, int key, int value) {
        Person person = person(client);
        hasKey(key);
        refuseUnless(person.state.equals("running"));
        Set<Integer> others = new HashSet<>(person.work.writes.keySet());
        others.remove(key);
        if (others.size() == 4) {
            throw new IndexOutOfBoundsException();
        }
        person.work.writes.put(key, value);
    }

    void propose(int client, int time) {
        Person person = person(client);
        if (time < 1 || time > 1_000_000) {
            throw new IllegalArgumentException();
        }
        refuseUnless(person.state.equals("running") || person.state.equals("proposed"));
        for (int used : person.timesUsed) {
            refuseUnless(used < time);
        }
        person.timesUsed.add(time);
        person.state = "proposed";
        person.work.timestamp = 4 * time + client;
        person.answers.clear();
        person.confirmed.clear();
        for (Site site : sites) {
            site.entries.remove(person.work.number);
        }
    }

    int prepare(int client, int replica) {
        Person person = person(client);
        Site site = site(replica);
        refuseUnless(person.state.equals("proposed"));
        mustServe(site);
        int number = person.work.number;
        if (!site.entries.containsKey(number)) {
            site.entries.put(number, new Entry(check(person.work, site)));
        }
        person.answers.put(replica, site.entries.get(number).result);
        return person.answers.get(replica).ordinal();
    }

    private Result check(Work work, Site site) {
        for (int key : work.versionSeen.keySet()) {
            int seen = work.versionSeen.get(key);
            if (site.versionOf(key) > seen || !(seen < work.timestamp)) {
                return Result.ABORT;
            }
        }
        List<Work> prepared = new ArrayList<>();
        for (int number : site.entries.keySet()) {
            if (number != work.number && site.entries.get(number).prepared()) {
                prepared.add(ever.get(number));
            }
        }
        for (Work other : prepared) {
            if (!Collections.disjoint(work.versionSeen.keySet(), other.writes.keySet())) {
                return Result.ABSTAIN;
            }
        }
        for (int key : work.writes.keySet()) {
            for (Work other : prepared) {
                if (other.versionSeen.containsKey(key) && other.timestamp > work.timestamp) {
                    return Result.RETRY;
                }
            }
            if (site.readOf(key) > work.timestamp || site.versionOf(key) > work.timestamp) {
                return Result.RETRY;
            }
        }
        return Result.OK;
    }

    int decide(int client) {
        Person person = person(client);
        refuseUnless(person.state.equals("proposed"));
        refuseUnless(person.answers.size() >= 2);
        List<Result> answers = new ArrayList<>(person.answers.values());
        boolean threeAlike = answers.size() == 3 && new HashSet<>(answers).size() == 1;
        Result result = byTheRule(answers);
        if (result == Result.RETRY) {
            return 3;
        }
        if (threeAlike) {
            person.state = answers.get(0) == Result.OK ? "to commit" : "to abort";
        } else {
            person.state = "slow";
            person.slow = result;
        }
        return result.ordinal();
    }

    private static Result byTheRule(List<Result> answers) {
        if (answers.contains(Result.ABORT)) {
            return Result.ABORT;
        }
        if (Collections.frequency(answers, Result.OK) >= 2) {
            return Result.OK;
        }
        if (Collections.frequency(answers, Result.ABSTAIN) >= 2) {
            return Result.ABORT;
        }
        if (answers.contains(Result.RETRY)) {
            return Result.RETRY;
        }
        return Result.ABORT;
    }

    int confirm(int client, int replica) {
        Person person = person(client);
        Site site = site(replica);
        refuseUnless(person.state.equals("slow"));
        mustServe(site);
        Entry entry = site.entries.computeIfAbsent(person.work.number, n -> new Entry(person.slow));
        if (!entry.isFinal) {
            entry.result = person.slow;
            entry.isFinal = true;
        }
        if (entry.result == person.slow) {
            person.confirmed.add(replica);
        }
        if (person.confirmed.size() == 2) {
            person.state = person.slow == Result.OK ? "to commit" : "to abort";
        }
        return person.confirmed.size();
    }

    boolean finish(int client, int replica) {
        Person person = person(client);
        Site site = site(replica);
        refuseUnless(person.state.equals("to commit") || person.state.equals("to abort"));
        mustServe(site);
        boolean commits = person.state.equals("to commit");
        Work work = person.work;
        Entry entry = site.entries.computeIfAbsent(work.number, n -> new Entry(commits ? Result.OK : Result.ABORT));
        if (entry.applied || entry.dropped) {
            return false;
        }
        if (!commits) {
            entry.dropped = true;
            return true;
        }
        entry.applied = true;
        for (int key : work.writes.keySet()) {
            if (work.timestamp > site.versionOf(key)) {
                site.version.put(key, work.timestamp);
                site.value.put(key, work.writes.get(key));
            }
        }
        for (int key : work.versionSeen.keySet()) {
            if (work.timestamp > site.readOf(key)) {
                site.readBy.put(key, work.timestamp);
            }
        }
        return true;
    }

    void end(int client) {
        Person person = person(client);
        refuseUnless(person.state.equals("to commit") || person.state.equals("to abort"));
        person.work = null;
        person.state = "none";
    }

    boolean power(int replica, boolean up) {
        Site site = site(replica);
        if (site.up == up) {
            return false;
        }
        site.up = up;
        return true;
    }

    int change() {
        List<Site> members = new ArrayList<>();
        int greatestView = 0;
        for (Site site : sites) {
            if (site.up) {
                members.add(site);
                greatestView = Math.max(greatestView, site.view);
            }
        }
        refuseUnless(members.size() >= 2);
        Set<Integer> numbers = new TreeSet<>();
        for (Site member : members) {
            numbers.addAll(member.entries.keySet());
        }
        Set<Integer> waiting = new TreeSet<>();
        for (int number : numbers) {
            if (!settled(number, members, greatestView)) {
                waiting.add(number);
            }
        }
        for (int number : waiting) {
            boolean eachOk = true;
            for (Site member : members) {
                Entry entry = member.entries.get(number);
                eachOk = eachOk && entry != null && entry.result == Result.OK;
            }
            makeFinal(number, members, eachOk ? Result.OK : Result.ABORT);
        }
        for (int key = 0; key < 6; key++) {
            mergeKey(key, members);
        }
        int next = state(0) + 1;
        for (Site member : members) {
            member.view = next;
        }
        return next;
    }

    /** False: it waits. */
    private boolean settled(int number, List<Site> members, int greatestView) {
        List<Entry> entries = new ArrayList<>();
        Result finalInGreatestView = null;
        for (Site member : members) {
            Entry entry = member.entries.get(number);
            if (entry == null) {
                continue;
            }
            entries.add(entry);
            if (entry.isFinal && member.view == greatestView && finalInGreatestView == null) {
                finalInGreatestView = entry.result;
            }
        }
        for (Entry entry : entries) {
            if (entry.applied) {
                for (Site member : members) {
                    member.entries.computeIfAbsent(number, n -> new Entry(Result.OK)).applied = true;
                }
                return true;
            }
        }
        for (Entry entry : entries) {
            if (entry.dropped) {
                for (Site member : members) {
                    member.entries.computeIfAbsent(number, n -> new Entry(Result.ABORT)).dropped = true;
                }
                return true;
            }
        }
        if (finalInGreatestView != null) {
            makeFinal(number, members, finalInGreatestView);
            return true;
        }
        for (Entry one : entries) {
            for (Entry other : entries) {
                if (one != other && one.result == other.result && one.result != Result.OK) {
                    makeFinal(number, members, one.result);
                    return true;
                }
            }
        }
        return false;
    }

    private static void makeFinal(int number, List<Site> members, Result result) {
        for (Site member : members) {
            Entry entry = member.entries.computeIfAbsent(number, n -> new Entry(result));
            entry.result = result;
            entry.isFinal = true;
        }
    }

    private static void mergeKey(int key, List<Site> members) {
        Site newest = members.get(0);
        int readBy = 0;
        for (Site member : members) {
            if (member.versionOf(key) > newest.versionOf(key)) {
                newest = member;
            }
            readBy = Math.max(readBy, member.readOf(key));
        }
        int version = newest.versionOf(key);
        int value = newest.valueOf(key);
        for (Site member : members) {
            member.version.put(key, version);
            member.value.put(key, value);
            member.readBy.put(key, readBy);
        }
    }

    int client(int c, int what) {
        if (c < 0 || c > 3 || what < 0 || what > 7) {
            return -1;
        }
        Person person = people.get(c);
        if (what == 7) {
            return person.state.equals("slow") ? person.slow.ordinal() : -1;
        }
        if (person.work == null) {
            return 0;
        }
        return new int[] {STATES.indexOf(person.state), person.work.number, person.work.timestamp,
            person.work.versionSeen.size(), person.work.writes.size(), person.answers.size(),
            person.confirmed.size()}[what];
    }

    int at(int replica, int key, int what) {
        if (replica < 0 || replica > 2 || key < 0 || key > 5 || what < 0 || what > 2) {
            return -1;
        }
        Site site = sites.get(replica);
        return new int[] {site.versionOf(key), site.valueOf(key), site.readOf(key)}[what];
    }

    int record(int replica, int transaction) {
        if (replica < 0 || replica > 2 || !sites.get(replica).entries.containsKey(transaction)) {
            return -1;
        }
        Entry entry = sites.get(replica).entries.get(transaction);
        return entry.result.ordinal() + (entry.isFinal ? 4 : 0) + (entry.applied ? 8 : 0) + (entry.dropped ? 16 : 0);
    }

    int state(int what) {
        if (what == 0) {
            return Math.max(state(2), Math.max(state(3), state(4)));
        }
        if (what == 1) {
            return ever.size();
        }
        if (what >= 2 && what <= 4) {
            return sites.get(what - 2).view;
        }
        if (what >= 5 && what <= 7) {
            return sites.get(what - 5).up ? 1 : 0;
        }
        return -1;
    }

    private Person person(int client) {
        if (client < 0 || client > 3) {
            throw new IllegalArgumentException();
        }
        return people.get(client);
    }

    private Site site(int replica) {
        if (replica < 0 || replica > 2) {
            throw new IllegalArgumentException();
        }
        return sites.get(replica);
    }

    private static void hasKey(int key) {
        if (key < 0 || key > 5) {
            throw new IllegalArgumentException();
        }
    }

    private static void refuseUnless(boolean allowed) {
        if (!allowed) {
            throw new IllegalStateException();
        }
    }

    private void mustServe(Site site) {
        if (!site.up || site.view != state(0)) {
            throw new UnsupportedOperationException();
        }
    }
}
