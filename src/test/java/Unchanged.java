import java.util.ArrayList;
import java.util.List;
import java.util.TreeSet;

/**
 * Whether a refused call changes nothing: of two objects with the same calls behind them one has the
 * refused call too, and both must answer alike whatever they are asked and whatever is done next. New
 * objects are made again and again, since each is good for so many calls only.
 */
final class Unchanged {
    private final String where;
    private final List<Call> before;
    private final Call refused;
    private final int transactions;
    private final TreeSet<Integer> triples = new TreeSet<>(List.of(0, 199));
    private final int least;
    private final int latest;

    private Unchanged(String where, List<Call> before, Call refused) {
        this.where = where;
        this.before = before;
        this.refused = refused;
        transactions = (int) before.stream()
                .filter(call -> call.name().equals("begin") || call.name().equals("look")).count();
        before.stream().filter(call -> call.name().equals("put") && triples.size() < 12)
                .forEach(call -> triples.add(call.b()));
        VersionTrans object = made(false);
        least = object.least();
        latest = object.latest();
    }

    static void check(String where, List<Call> before, Call refused) {
        if (before.size() + 1 >= Runs.MOST_CALLS) {
            return;
        }
        Unchanged check = new Unchanged(where, before, refused);
        check.compareInParts(check.states());
        check.compareInParts(check.counts());
        check.compareInParts(check.contents());
        for (Call deed : check.deeds()) {
            check.compareFirst(deed, check.states());
        }
        for (Call deed : check.deeds()) {
            check.compareFirst(deed, check.someReads());
        }
    }

    private VersionTrans made(boolean withRefused) {
        VersionTrans object = new VersionTrans();
        before.forEach(call -> call.on(object));
        if (withRefused) {
            refused.on(object);
        }
        return object;
    }

    private int room() {
        return Runs.MOST_CALLS - before.size() - 1;
    }

    private void compareInParts(List<Call> calls) {
        for (int from = 0; from < calls.size(); from += room()) {
            compare(calls.subList(from, Math.min(calls.size(), from + room())));
        }
    }

    private void compareFirst(Call deed, List<Call> questions) {
        List<Call> calls = new ArrayList<>(List.of(deed));
        calls.addAll(questions);
        compare(calls.subList(0, Math.min(calls.size(), room())));
    }

    private void compare(List<Call> calls) {
        VersionTrans without = made(false);
        VersionTrans with = made(true);
        for (Call call : calls) {
            String want = call.on(without);
            String got = call.on(with);
            // Only where they differ, since texts for each of so many answers would take long.
            if (!got.equals(want)) {
                Runs.due(where + " is refused but changes something", calls.get(0) + " .. " + call, got, want);
            }
        }
    }

    private List<Call> states() {
        List<Call> calls = new ArrayList<>(List.of(Call.of("rows"), Call.of("latest"), Call.of("least")));
        for (int number = 0; number < transactions; number++) {
            calls.add(Call.of("state", number));
            calls.add(Call.of("waits", number));
        }
        return calls;
    }

    private List<Call> counts() {
        List<Call> calls = new ArrayList<>();
        for (int i = 0; i <= 60; i++) {
            calls.add(Call.of("ring", i));
        }
        for (int graph = 0; graph < 4; graph++) {
            calls.add(Call.of("conflicts", 1, graph));
        }
        for (int triple = 0; triple < 200; triple++) {
            calls.add(Call.of("conflicts", 0, triple));
        }
        return calls;
    }

    private List<Call> contents() {
        List<Call> calls = new ArrayList<>();
        for (int triple = 0; triple < 200; triple++) {
            for (int version = least; version <= latest; version++) {
                calls.add(Call.of("told", version, triple));
            }
        }
        for (int triple = 0; triple < 200; triple++) {
            for (int number = 0; number < transactions; number++) {
                calls.add(Call.of("read", number, triple));
            }
        }
        return calls;
    }

    private List<Call> someReads() {
        List<Call> calls = new ArrayList<>();
        for (int triple : triples) {
            calls.add(Call.of("told", latest, triple));
            calls.add(Call.of("told", latest + 1, triple));
            for (int number = 0; number < transactions; number++) {
                calls.add(Call.of("read", number, triple));
            }
        }
        return calls;
    }

    private List<Call> deeds() {
        List<Call> calls = new ArrayList<>(List.of(Call.of("begin"), Call.of("free")));
        for (int version = 0; version <= latest + 1; version++) {
            calls.add(Call.of("look", version));
            calls.add(Call.of("pin", version));
            calls.add(Call.of("unpin", version));
        }
        for (int number = 0; number < transactions; number++) {
            calls.add(Call.of("commit", number));
            calls.add(Call.of("abort", number));
            for (int graph = 0; graph < 4; graph++) {
                calls.add(Call.of("note", number, graph));
            }
            for (int triple : triples) {
                calls.add(new Call("put", number, triple, true));
            }
        }
        return calls;
    }
}
