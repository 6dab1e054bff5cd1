import java.util.List;
import java.util.Map;
import java.util.TreeMap;

/** Long runs of calls on the class and on the model, which must answer alike call by call. */
public final class ModelTest {
    private static final int RUNS = 3000;
    private static final int LEAST_EVENTS = 50;
    private static final String[] WANTED_EVENTS = {"put 0", "put 1 waiting", "put 2", "put 4", "ring of 2",
        "ring of 3", "ring of 4", "ring aborts the one that began", "ring aborts another one",
        "waits for a failed one", "queue of 4", "tried again: 0", "tried again: 1", "tried again: 2",
        "commit of a failed one", "commit refused for a graph", "commit of nothing", "commit of a version",
        "abort of 0", "abort of 1", "abort of 2", "free of nothing", "free of rows"};
    private static final String[] ASKING = {"read", "told", "rows", "latest", "least", "state", "waits", "ring",
        "conflicts"};
    private static final String[] KEEPING = {"look", "pin", "unpin", "unpin", "free"};
    private static final int[] TRIPLES = {49, 50, 149, 150, 0, 199, 99, 100, 7, 57, 107, 157, 1, 198};
    private static final int[] ODD = {-1, 60, 61, 200, 4, 199, Integer.MIN_VALUE, Integer.MAX_VALUE};

    private static final Map<String, Integer> EVENTS = new TreeMap<>();
    private static long seed;

    private final VersionTrans object = new VersionTrans();
    private final Model model = new Model();
    private final StringBuilder calls = new StringBuilder();
    private final int triples = 2 + below(TRIPLES.length - 1);
    private final int crowd = 2 + below(12);
    private final int ending = 2 + below(12);

    private ModelTest() {
    }

    public static void main(String[] args) {
        for (int run = 0; run < RUNS; run++) {
            seed = run;
            new ModelTest().run("run " + run);
        }
        for (String event : WANTED_EVENTS) {
            if (EVENTS.getOrDefault(event, 0) < LEAST_EVENTS) {
                Runs.fail("the runs have too few of: " + event + ", they have " + EVENTS);
            }
        }
        Runs.end();
    }

    // A fixed row of numbers, so that the runs are the same each time.
    private static int below(int bound) {
        seed = seed * 6364136223846793005L + 1442695040888963407L;
        return (int) Long.remainderUnsigned(seed >>> 33, bound);
    }

    private void run(String title) {
        for (int call = 0; call < Runs.MOST_CALLS; call++) {
            String name = nextName();
            int a = below(60) == 0 ? ODD[below(ODD.length)] : firstNumber(name);
            int b = below(60) == 0 ? ODD[below(ODD.length)] : secondNumber(name, a);
            boolean there = below(3) != 0;
            String want = model.answer(name, a, b, there);
            String got = new Call(name, a, b, there).on(object);
            calls.append('\n').append(name).append('(').append(a).append(", ").append(b).append(", ").append(there)
                    .append(") = ").append(want);
            Runs.due(title, "the last call", got, want);
            if (!got.equals(want)) {
                System.out.println(calls);
                return;
            }
        }
        model.events.forEach((event, count) -> EVENTS.merge(event, count, Integer::sum));
    }

    private String nextName() {
        int choice = below(100);
        if (choice < ending) {
            return below(3) == 0 ? "abort" : "commit";
        }
        if (choice < 60) {
            return model.live().size() < crowd && below(3) == 0 ? "begin" : below(12) == 0 ? "note" : "put";
        }
        return choice < 75 ? KEEPING[below(KEEPING.length)] : ASKING[below(ASKING.length)];
    }

    private int firstNumber(String name) {
        return switch (name) {
            case "look", "told", "pin" -> model.versionCount() - below(4);
            case "unpin" -> oneOf(model.pinned());
            case "ring" -> below(8) - 1;
            case "conflicts" -> below(2);
            case "put", "note", "commit" -> below(10) == 0 ? oneOf(model.live()) : oneOf(model.open());
            default -> below(8) == 0 ? below(60) : oneOf(model.live());
        };
    }

    private int secondNumber(String name, int a) {
        boolean isGraph = name.equals("note") || name.equals("conflicts") && a == 1;
        return isGraph ? below(4) : TRIPLES[below(triples)];
    }

    private static int oneOf(List<Integer> numbers) {
        return numbers.isEmpty() ? below(60) : numbers.get(below(numbers.size()));
    }
}
