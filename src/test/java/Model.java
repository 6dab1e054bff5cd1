import java.util.ArrayDeque;
import java.util.ArrayList;
import java.util.Comparator;
import java.util.Deque;
import java.util.List;
import java.util.Map;
import java.util.TreeMap;
import java.util.TreeSet;

/**
 * The document once more, word by word and without any care for speed, held in another way than the
 * class holds it: each version has its rows, each transaction its own writes, notes and wait.
 */
final class Model {
    static final class Refused extends RuntimeException {
        private static final long serialVersionUID = 1L;

        Refused(String answer) {
            super(answer);
        }
    }

    private static final class Tx {
        int number;
        boolean writer;
        int sees;
        int state;
        final Map<Integer, Boolean> writes = new TreeMap<>();
        final TreeSet<Integer> notes = new TreeSet<>();
        int waitsFor = -1;
        long began;
        int triple;
        boolean there;
    }

    private final List<Tx> all = new ArrayList<>();
    private final List<Map<Integer, Boolean>> versions = new ArrayList<>();
    private final Map<Integer, Integer> pinned = new TreeMap<>();
    private final Map<Integer, Integer> failed = new TreeMap<>();
    private final Map<Integer, Integer> refused = new TreeMap<>();
    private final Deque<Integer> queue = new ArrayDeque<>();
    private List<Integer> latestRing = List.of();
    private long clock = 0;
    /** What befell in the run, so that a test can tell that its runs were no idle ones. */
    final Map<String, Integer> events = new TreeMap<>();

    Model() {
        versions.add(new TreeMap<>());
    }

    String answer(String name, int a, int b, boolean there) {
        try {
            return switch (name) {
                case "begin" -> "" + start(true, versions.size() - 1);
                case "look" -> "" + start(false, version(a));
                case "put" -> "" + put(a, b, there);
                case "note" -> "" + note(a, b);
                case "read" -> "" + read(a, b);
                case "told" -> "" + in(version(a), triple(b));
                case "commit" -> "" + commit(a);
                case "abort" -> "" + abort(a);
                case "pin" -> "" + pinned.merge(version(a), 1, Integer::sum);
                case "unpin" -> "" + unpin(a);
                case "free" -> "" + free();
                case "rows" -> "" + versions.stream().mapToInt(Map::size).sum();
                case "latest" -> "" + (versions.size() - 1);
                case "least" -> "" + leastKept();
                case "state" -> "" + tx(a).state;
                case "waits" -> "" + tx(a).waitsFor;
                case "ring" -> "" + (a >= 0 && a < latestRing.size() ? latestRing.get(a) : -1);
                case "conflicts" -> "" + conflicts(a, b);
                default -> "no such call";
            };
        } catch (Refused e) {
            return e.getMessage();
        }
    }

    int versionCount() {
        return versions.size();
    }

    List<Integer> pinned() {
        return List.copyOf(pinned.keySet());
    }

    List<Integer> live() {
        return all.stream().filter(t -> t.state < 3).map(t -> t.number).toList();
    }

    List<Integer> open() {
        return all.stream().filter(t -> t.state == 0).map(t -> t.number).toList();
    }

    private void event(String what) {
        events.merge(what, 1, Integer::sum);
    }

    private static int within(int number, int bound) {
        if (number < 0 || number >= bound) {
            throw new Refused(Runs.ARGUMENT);
        }
        return number;
    }

    private static int triple(int triple) {
        return within(triple, 200);
    }

    private Tx tx(int number) {
        return all.get(within(number, all.size()));
    }

    private int version(int version) {
        within(version, versions.size());
        if (version < leastKept()) {
            throw new Refused(Runs.ARGUMENT);
        }
        return version;
    }

    private static void want(boolean holds) {
        if (!holds) {
            throw new Refused(Runs.STATE);
        }
    }

    private int leastKept() {
        TreeSet<Integer> kept = new TreeSet<>();
        kept.add(versions.size() - 1);
        kept.addAll(pinned.keySet());
        all.stream().filter(t -> t.state < 3).forEach(t -> kept.add(t.sees));
        return kept.first();
    }

    private boolean in(int version, int triple) {
        for (int v = version; v >= 0; v--) {
            if (versions.get(v).containsKey(triple)) {
                return versions.get(v).get(triple);
            }
        }
        return false;
    }

    private int start(boolean writer, int sees) {
        want(all.size() < 60);
        Tx t = new Tx();
        t.number = all.size();
        t.writer = writer;
        t.sees = sees;
        all.add(t);
        return t.number;
    }

    private int put(int a, int b, boolean there) {
        Tx t = tx(a);
        triple(b);
        want(t.writer && t.state == 0);
        write(t, b, there);
        workOff();
        event("put " + t.state + (t.waitsFor < 0 ? "" : " waiting"));
        return new int[] {1, 0, -1, 99, -2}[t.state];
    }

    private void write(Tx t, int triple, boolean there) {
        t.waitsFor = -1;
        if (versions.subList(t.sees + 1, versions.size()).stream().anyMatch(rows -> rows.containsKey(triple))) {
            t.state = 2;
            failed.merge(triple, 1, Integer::sum);
            return;
        }
        for (Tx other : all) {
            if (other != t && other.state < 3 && other.writes.containsKey(triple)) {
                event(other.state == 2 ? "waits for a failed one" : "waits");
                t.state = 1;
                t.waitsFor = other.number;
                t.began = clock++;
                t.triple = triple;
                t.there = there;
                lookForRing(t);
                return;
            }
        }
        t.state = 0;
        t.writes.put(triple, there);
    }

    private void lookForRing(Tx start) {
        TreeSet<Integer> members = new TreeSet<>();
        Tx at = start;
        while (at.state == 1 && members.add(at.number)) {
            at = all.get(at.waitsFor);
        }
        if (at.state == 1 && at == start) {
            latestRing = List.copyOf(members);
            Tx victim = all.get(members.last());
            event("ring of " + Math.min(members.size(), 4));
            event(victim == start ? "ring aborts the one that began" : "ring aborts another one");
            end(victim, 4);
        }
    }

    private void end(Tx t, int state) {
        t.state = state;
        t.waitsFor = -1;
        all.stream().filter(o -> o.state == 1 && o.waitsFor == t.number)
                .sorted(Comparator.comparingLong(o -> o.began))
                .forEach(o -> queue.addLast(o.number));
        event("queue of " + Math.min(queue.size(), 4));
    }

    private void workOff() {
        while (!queue.isEmpty()) {
            Tx t = all.get(queue.removeFirst());
            if (t.state == 1) {
                write(t, t.triple, t.there);
                event("tried again: " + t.state);
            }
        }
    }

    private int note(int a, int graph) {
        Tx t = tx(a);
        within(graph, 4);
        want(t.writer && t.state == 0);
        t.notes.add(graph);
        return t.notes.size();
    }

    private boolean read(int a, int b) {
        Tx t = tx(a);
        triple(b);
        want(t.state < 3);
        return t.writes.containsKey(b) ? t.writes.get(b) : in(t.sees, b);
    }

    private int commit(int a) {
        Tx t = tx(a);
        want(t.state == 0 || t.state == 2);
        Integer graph = null;
        for (int g : t.notes.descendingSet()) {
            for (int v = t.sees + 1; v < versions.size(); v++) {
                if (versions.get(v).keySet().stream().anyMatch(triple -> triple / 50 == g)) {
                    graph = g;
                }
            }
        }
        if (t.state == 2 || graph != null) {
            event(t.state == 2 ? "commit of a failed one" : "commit refused for a graph");
            if (t.state != 2) {
                refused.merge(graph, 1, Integer::sum);
            }
            end(t, 4);
            workOff();
            return 0;
        }
        Map<Integer, Boolean> rows = new TreeMap<>(t.writes);
        rows.entrySet().removeIf(w -> in(t.sees, w.getKey()) == w.getValue());
        if (!rows.isEmpty()) {
            versions.add(rows);
        }
        event(rows.isEmpty() ? "commit of nothing" : "commit of a version");
        end(t, 3);
        workOff();
        return rows.isEmpty() ? t.sees : versions.size() - 1;
    }

    private int abort(int a) {
        Tx t = tx(a);
        want(t.state < 3);
        event("abort of " + t.state);
        end(t, 4);
        workOff();
        return t.writes.size();
    }

    private int unpin(int version) {
        if (!pinned.containsKey(version)) {
            throw new Refused(Runs.ARGUMENT);
        }
        int left = pinned.get(version) - 1;
        if (left == 0) {
            pinned.remove(version);
        } else {
            pinned.put(version, left);
        }
        return left;
    }

    private int free() {
        int least = leastKept();
        int dropped = 0;
        for (int triple = 0; triple < 200; triple++) {
            int greatest = -1;
            for (int v = 0; v <= least; v++) {
                greatest = versions.get(v).containsKey(triple) ? v : greatest;
            }
            for (int v = 0; v <= greatest; v++) {
                Boolean there = versions.get(v).get(triple);
                if (there != null && (v < greatest || !there)) {
                    versions.get(v).remove(triple);
                    dropped++;
                }
            }
        }
        event(dropped == 0 ? "free of nothing" : "free of rows");
        return dropped;
    }

    private int conflicts(int kind, int number) {
        within(kind, 2);
        within(number, kind == 0 ? 200 : 4);
        return (kind == 0 ? failed : refused).getOrDefault(number, 0);
    }
}
