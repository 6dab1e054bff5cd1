import java.util.ArrayList;
import java.util.List;

/**
 * Runs of calls on new objects, written as lines "put(0, 5, true) = 1". An exception is written as
 * throws.IllegalStateException, as in the issues, so that a run told there can stand in a test as it is.
 */
final class Runs {
    static final int MOST_CALLS = 512;
    static final String ARGUMENT = "throws.IllegalArgumentException";
    static final String STATE = "throws.IllegalStateException";

    private static int wrong = 0;
    private static int checked = 0;

    private Runs() {
    }

    static void check(String name, String lines) {
        List<String> calls = new ArrayList<>();
        List<String> dues = new ArrayList<>();
        for (String line : lines.strip().split("\n")) {
            String[] sides = line.strip().split(" = ");
            calls.add(sides[0]);
            dues.add(sides[1]);
        }
        checkCalls(name, calls, dues, true);
        // What throws changes nothing, so all else must be answered alike when it is left out.
        checkCalls(name + ", without the calls that throw", calls, dues, false);
    }

    private static void checkCalls(String name, List<String> calls, List<String> dues, boolean withThrowing) {
        VersionTrans object = new VersionTrans();
        int made = 0;
        for (int i = 0; i < calls.size(); i++) {
            if (withThrowing || !dues.get(i).startsWith("throws.")) {
                due(name + ", line " + (i + 1), calls.get(i), answer(object, calls.get(i)), dues.get(i));
                made++;
            }
        }
        if (made > MOST_CALLS) {
            fail(name + ": has " + made + " calls, more than are promised");
        }
    }

    static void due(String where, String call, String got, String want) {
        checked++;
        if (!got.equals(want)) {
            fail(where + ": " + call + " answered " + got + ", due is " + want);
        }
    }

    static void fail(String text) {
        wrong++;
        System.out.println(text);
    }

    static void end() {
        System.out.println(checked + " answers looked at, " + wrong + " wrong");
        if (wrong != 0) {
            System.exit(1);
        }
    }

    static String answer(VersionTrans object, String call) {
        String name = call.substring(0, call.indexOf('('));
        String inside = call.substring(call.indexOf('(') + 1, call.lastIndexOf(')'));
        String[] words = inside.isBlank() ? new String[0] : inside.split(",");
        int[] numbers = new int[3];
        for (int i = 0; i < words.length; i++) {
            String word = words[i].strip();
            numbers[i] = word.equals("true") ? 1 : word.equals("false") ? 0 : Integer.parseInt(word);
        }
        return answer(object, name, numbers[0], numbers[1], numbers[2] == 1);
    }

    static String answer(VersionTrans object, String name, int a, int b, boolean there) {
        try {
            return switch (name) {
                case "begin" -> "" + object.begin();
                case "look" -> "" + object.look(a);
                case "put" -> "" + object.put(a, b, there);
                case "note" -> "" + object.note(a, b);
                case "read" -> "" + object.read(a, b);
                case "told" -> "" + object.told(a, b);
                case "commit" -> "" + object.commit(a);
                case "abort" -> "" + object.abort(a);
                case "pin" -> "" + object.pin(a);
                case "unpin" -> "" + object.unpin(a);
                case "free" -> "" + object.free();
                case "rows" -> "" + object.rows();
                case "latest" -> "" + object.latest();
                case "least" -> "" + object.least();
                case "state" -> "" + object.state(a);
                case "waits" -> "" + object.waits(a);
                case "ring" -> "" + object.ring(a);
                case "conflicts" -> "" + object.conflicts(a, b);
                default -> "no such call";
            };
        } catch (RuntimeException e) {
            return "throws." + e.getClass().getSimpleName();
        }
    }
}
