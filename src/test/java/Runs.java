import java.util.ArrayList;
import java.util.List;
import java.util.function.IntFunction;

/**
 * Runs of calls on new objects, written as lines "put(0, 5, true) = 1". An exception is written as
 * throws.IllegalStateException, as in the issues, so that a run told there can stand in a test as it is.
 */
final class Runs {
    static final int MOST_CALLS = 512;
    static final String ARGUMENT = "throws.IllegalArgumentException";
    static final String STATE = "throws.IllegalStateException";

    private static int wrong = 0;
    private static int checked = 0;

    private Runs() {
    }

    static void check(String name, String lines) {
        List<Call> calls = new ArrayList<>();
        List<String> dues = new ArrayList<>();
        for (String line : lines.strip().split("\n")) {
            String[] sides = line.strip().split(" = ");
            calls.add(Call.parse(sides[0]));
            dues.add(sides[1]);
        }
        if (calls.size() > MOST_CALLS) {
            fail(name + ": has " + calls.size() + " calls, more than are promised");
        }
        checkCalls(name, calls, dues, true);
        // What throws changes nothing, so all else must be answered alike when it is left out.
        checkCalls(name + ", without the calls that throw", calls, dues, false);
        checkRefused(name, calls, dues);
    }

    /** Each of the lines alone behind the same beginning, so that none of them can help another. */
    static void checkEach(String name, String beginning, String lines) {
        for (String line : lines.strip().split("\n")) {
            check(name + ", " + line.strip(), beginning.strip() + "\n" + line);
        }
    }

    private static void checkCalls(String name, List<Call> calls, List<String> dues, boolean withRefused) {
        VersionTrans object = new VersionTrans();
        for (int i = 0; i < calls.size(); i++) {
            if (withRefused || !isRefusal(dues.get(i))) {
                due(name + ", line " + (i + 1), calls.get(i).toString(), calls.get(i).on(object), dues.get(i));
            }
        }
    }

    private static void checkRefused(String name, List<Call> calls, List<String> dues) {
        List<Call> before = new ArrayList<>();
        for (int i = 0; i < calls.size(); i++) {
            if (isRefusal(dues.get(i))) {
                Unchanged.check(name + ", line " + (i + 1), before, calls.get(i));
            } else {
                before.add(calls.get(i));
            }
        }
    }

    private static boolean isRefusal(String due) {
        return due.startsWith("throws.");
    }

    /** A line for each number from the first one on, below the bound. */
    static String each(int first, int bound, IntFunction<String> line) {
        StringBuilder lines = new StringBuilder();
        for (int number = first; number < bound; number++) {
            lines.append(line.apply(number)).append('\n');
        }
        return lines.toString();
    }

    /** The call with numbers in the place of # that are below 0 or not below the bound: all are refused. */
    static String outside(String call, int bound) {
        StringBuilder lines = new StringBuilder();
        for (int number : new int[] {-1, bound, bound + 1, Integer.MIN_VALUE, Integer.MAX_VALUE}) {
            lines.append(call.replace("#", "" + number)).append(" = ").append(ARGUMENT).append('\n');
        }
        return lines.toString();
    }

    static void due(String where, String call, String got, String want) {
        checked++;
        if (!got.equals(want)) {
            fail(where + ": " + call + " answered " + got + ", due is " + want);
        }
    }

    static void fail(String text) {
        wrong++;
        System.out.println(text);
    }

    static void end() {
        System.out.println(checked + " answers looked at, " + wrong + " wrong");
        if (wrong != 0) {
            System.exit(1);
        }
    }
}
