import java.util.ArrayList;
import java.util.List;
import java.util.Random;

/** The sentences of "What it is" and "Terms" that name a boundary case, with tests of their own for each. */
public final class TermsTest {
    private static final int MOST = 60;

    private TermsTest() {
    }

    public static void main(String[] args) {
        atMost512Calls();
        laterCalls();
        triples();
        triplesEachOfItsOwn();
        graphs();
        versionZero();
        theRowThatCounts();
        atMost60Transactions();
        noSuchTransaction();
        failsBeforeItWaits();
        waitsBeforeItHolds();
        holdsAndWrites();
        ringsOfAnyOrder();
        ringsAndChainsOfAll();
        ringsAndOthers();
        whenAWriterEnds();
        whenManyWait();
        whenNoneWait();
        failed();
        kept();
        thrown();
        thrownAmongWaits();
        Runs.end();
    }

    private static void atMost512Calls() {
        String title = "an object is used for at most 512 calls: ";
        Runs.check(title + "pins alone", Runs.each(1, 513, n -> "pin(0) = " + n));
        Runs.check(title + "pins and unpins", Runs.each(1, 257, n -> "pin(0) = " + n)
                + Runs.each(1, 257, n -> "unpin(0) = " + (256 - n)));
        Runs.check(title + "writes and an abort", "begin() = 0\n"
                + Runs.each(0, 510, n -> "put(0, " + n % 200 + ", true) = 1") + "abort(0) = 200");
        Runs.check(title + "writes, the last ones of which count", "begin() = 0\n"
                + Runs.each(0, 508, n -> "put(0, " + n % 200 + ", " + (n / 200 % 2 == 0) + ") = 1") + """
                commit(0) = 1
                rows() = 108
                told(1, 107) = true
                """);
        Runs.check(title + "refused ones count, too", Runs.each(0, 511, n -> "state(0) = " + Runs.ARGUMENT)
                + "begin() = 0");
    }

    private static void laterCalls() {
        String[] names = {"begin", "look", "put", "put", "put", "put", "note", "read", "told", "commit", "abort",
            "pin", "unpin", "free", "rows", "latest", "least", "state", "waits", "ring", "conflicts"};
        int[] odd = {-1, 60, 61, 199, 200, Integer.MIN_VALUE, Integer.MAX_VALUE};
        Random random = new Random(512);
        for (int run = 0; run < 20; run++) {
            VersionTrans object = new VersionTrans();
            for (int call = 0; call < 5000; call++) {
                int a = random.nextInt(9) == 0 ? odd[random.nextInt(odd.length)] : random.nextInt(MOST);
                int b = random.nextInt(9) == 0 ? odd[random.nextInt(odd.length)] : random.nextInt(5);
                Call next = new Call(names[random.nextInt(names.length)], a, b, random.nextBoolean());
                String got = next.on(object);
                boolean good = !got.startsWith("throws.") || got.equals(Runs.ARGUMENT) || got.equals(Runs.STATE);
                Runs.due("what later calls answer is free, but no other exception comes", next + " = " + got,
                        "" + good, "true");
            }
        }
    }

    private static void triples() {
        String title = "triples are numbers 0 .. 199";
        String both = """
                begin() = 0
                put(0, 0, true) = 1
                put(0, 199, true) = 1
                """;
        Runs.checkEach(title, both, """
                put(0, 0, false) = 1
                put(0, 1, false) = 1
                put(0, 198, false) = 1
                put(0, 199, false) = 1
                read(0, 0) = true
                read(0, 1) = false
                read(0, 198) = false
                read(0, 199) = true
                told(0, 0) = false
                told(0, 199) = false
                conflicts(0, 0) = 0
                conflicts(0, 199) = 0
                """);
        Runs.checkEach(title, both, Runs.outside("put(0, #, true)", 200) + Runs.outside("put(0, #, false)", 200)
                + Runs.outside("read(0, #)", 200) + Runs.outside("told(0, #)", 200)
                + Runs.outside("conflicts(0, #)", 200));
    }

    private static void triplesEachOfItsOwn() {
        String title = "triples are numbers 0 .. 199, each of its own: ";
        String writes = "begin() = 0\n" + Runs.each(0, 200, t -> "put(0, " + t + ", " + (t % 3 == 0) + ") = 1");
        Runs.check(title + "read", writes + Runs.each(0, 200, t -> "read(0, " + t + ") = " + (t % 3 == 0)));
        Runs.check(title + "told", writes + "commit(0) = 1\nrows() = 67\n"
                + Runs.each(0, 200, t -> "told(1, " + t + ") = " + (t % 3 == 0)));
        List<Integer> failing = List.of(0, 1, 49, 50, 198, 199);
        Runs.check(title + "conflicts", Runs.each(0, 7, n -> "begin() = " + n)
                + Runs.each(0, 6, n -> "put(6, " + failing.get(n) + ", true) = 1") + "commit(6) = 1\n"
                + Runs.each(0, 6, n -> "put(" + n + ", " + failing.get(n) + ", true) = -1")
                + Runs.each(0, 200, t -> "conflicts(0, " + t + ") = " + (failing.contains(t) ? 1 : 0)));
    }

    private static void graphs() {
        for (int triple = 0; triple < 200; triple++) {
            for (int graph = 0; graph < 4; graph++) {
                boolean inside = 50 * graph <= triple && triple <= 50 * graph + 49;
                int noted = graph;
                Runs.check("triple t lies in graph t / 50", """
                        begin() = 0
                        begin() = 1
                        note(0, %d) = 1
                        put(1, %d, true) = 1
                        commit(1) = 1
                        commit(0) = 0
                        state(0) = %d
                        """.formatted(graph, triple, inside ? 4 : 3)
                        + Runs.each(0, 4, g -> "conflicts(1, " + g + ") = " + (inside && g == noted ? 1 : 0)));
            }
        }
        Runs.checkEach("graphs 0 .. 3", "begin() = 0", """
                note(0, 0) = 1
                note(0, 3) = 1
                conflicts(1, 0) = 0
                conflicts(1, 3) = 0
                """ + Runs.outside("note(0, #)", 4) + Runs.outside("conflicts(1, #)", 4));
    }

    private static void versionZero() {
        String title = "in version 0 no triple is there: ";
        String all = Runs.each(0, 200, t -> "put(1, " + t + ", true) = 1") + "commit(1) = 1\n";
        Runs.check(title + "told", Runs.each(0, 200, t -> "told(0, " + t + ") = false"));
        Runs.check(title + "read by a writer", "begin() = 0\n" + Runs.each(0, 200, t -> "read(0, " + t + ") = false"));
        Runs.check(title + "told when version 1 has them all", "look(0) = 0\nbegin() = 1\n" + all
                + Runs.each(0, 200, t -> "told(0, " + t + ") = false"));
        Runs.check(title + "read by a reader when version 1 has them all", "look(0) = 0\nbegin() = 1\n" + all
                + Runs.each(0, 200, t -> "read(0, " + t + ") = false"));
        Runs.check(title + "read by a writer when version 1 has them all", "begin() = 0\nbegin() = 1\n" + all
                + Runs.each(0, 200, t -> "read(0, " + t + ") = false"));
    }

    private static void theRowThatCounts() {
        // Triple 9 is there in versions 1, 2, 5, 6, and triple 5 in versions 2, 3, 6, 7.
        StringBuilder versions = new StringBuilder("pin(0) = 1\n");
        for (int version = 1; version <= 7; version++) {
            versions.append(made(version, version % 2 == 1 ? 9 : 5, version % 4 == 1 || version % 4 == 2));
        }
        boolean[] fives = {false, false, true, true, false, false, true, true};
        boolean[] nines = {false, true, true, false, false, true, true, false};
        String told = Runs.each(0, 8, v -> "told(" + v + ", 5) = " + fives[v] + "\ntold(" + v + ", 9) = " + nines[v]
                + "\ntold(" + v + ", 6) = false");
        String read = Runs.each(0, 8, v -> "look(" + v + ") = " + (7 + v) + "\nread(" + (7 + v) + ", 5) = " + fives[v]
                + "\nread(" + (7 + v) + ", 9) = " + nines[v]);
        Runs.check("the row with the greatest number that is not above it counts", versions + told + read);
    }

    /** The lines of a writer that makes a version by one triple, if each version before has had one, too. */
    private static String made(int version, int triple, boolean there) {
        int writer = version - 1;
        return "begin() = " + writer + "\nput(" + writer + ", " + triple + ", " + there + ") = 1\ncommit(" + writer
                + ") = " + version + "\n";
    }

    private static void atMost60Transactions() {
        String title = "transactions are numbered from 0, at most 60: ";
        String full = """
                begin() = throws.IllegalStateException
                look(0) = throws.IllegalStateException
                look(1) = throws.IllegalArgumentException
                look(-1) = throws.IllegalArgumentException
                state(59) = 0
                state(60) = throws.IllegalArgumentException
                """;
        Runs.check(title + "writers", Runs.each(0, MOST, n -> "begin() = " + n) + full);
        Runs.check(title + "readers", Runs.each(0, MOST, n -> "look(0) = " + n) + full);
        Runs.check(title + "both", Runs.each(0, MOST, n -> (n % 2 == 0 ? "look(0) = " : "begin() = ") + n) + full);
        Runs.check(title + "a refused one has no number", """
                look(1) = throws.IllegalArgumentException
                begin() = 0
                look(-1) = throws.IllegalArgumentException
                look(0) = 1
                begin() = 2
                """);
        Runs.check(title + "ended ones, too", Runs.each(0, MOST, n -> "begin() = " + n)
                + Runs.each(0, MOST, n -> (n % 2 == 0 ? "abort(" : "commit(") + n + ") = 0") + """
                begin() = throws.IllegalStateException
                look(0) = throws.IllegalStateException
                state(58) = 4
                state(59) = 3
                """);
        Runs.check(title + "sixty versions, and none for a 61st", "pin(0) = 1\n"
                + Runs.each(1, MOST + 1, v -> made(v, 7, v % 2 == 1).strip()) + """
                begin() = throws.IllegalStateException
                look(60) = throws.IllegalStateException
                look(61) = throws.IllegalArgumentException
                latest() = 60
                rows() = 60
                told(60, 7) = false
                told(59, 7) = true
                told(61, 7) = throws.IllegalArgumentException
                pin(60) = 1
                pin(61) = throws.IllegalArgumentException
                unpin(61) = throws.IllegalArgumentException
                unpin(60) = 0
                """);
    }

    private static void noSuchTransaction() {
        for (int count : new int[] {0, 1, 2}) {
            String calls = Runs.outside("put(#, 0, true)", count) + Runs.outside("put(#, 200, true)", count)
                    + Runs.outside("note(#, 0)", count) + Runs.outside("note(#, 4)", count)
                    + Runs.outside("read(#, 0)", count) + Runs.outside("read(#, 200)", count)
                    + Runs.outside("commit(#)", count) + Runs.outside("abort(#)", count)
                    + Runs.outside("state(#)", count) + Runs.outside("waits(#)", count);
            Runs.checkEach("no such transaction among " + count,
                    "pin(0) = 1\n" + Runs.each(0, count, n -> "begin() = " + n), calls);
        }
        Runs.check("no such transaction among 60", Runs.each(0, MOST, n -> "begin() = " + n)
                + "put(59, 199, true) = 1\nnote(59, 3) = 1\n" + Runs.outside("put(#, 0, true)", MOST)
                + Runs.outside("note(#, 0)", MOST) + Runs.outside("read(#, 0)", MOST)
                + Runs.outside("commit(#)", MOST) + Runs.outside("abort(#)", MOST)
                + Runs.outside("state(#)", MOST) + Runs.outside("waits(#)", MOST) + """
                waits(59) = -1
                read(59, 199) = true
                commit(59) = 1
                state(59) = 3
                """);
    }

    private static void failsBeforeItWaits() {
        Runs.check("writes 1, before 2: a row above fails it, though another writer holds the triple", """
                begin() = 0
                begin() = 1
                begin() = 2
                put(0, 5, true) = 1
                commit(0) = 1
                begin() = 3
                put(3, 5, false) = 1
                put(1, 5, true) = -1
                waits(1) = -1
                put(2, 5, false) = -1
                conflicts(0, 5) = 2
                abort(3) = 1
                state(1) = 2
                state(2) = 2
                """);
        // Triple 1 has rows in versions 1 and 3, triple 5 one in version 2; 1, 3 and 5 see versions 1, 2 and 3.
        String rows = """
                begin() = 0
                put(0, 1, true) = 1
                commit(0) = 1
                begin() = 1
                begin() = 2
                put(2, 5, true) = 1
                commit(2) = 2
                begin() = 3
                begin() = 4
                put(4, 1, false) = 1
                commit(4) = 3
                begin() = 5
                """;
        Runs.checkEach("writes 1: a version above the one that it sees has a row of the triple", rows, """
                put(1, 1, true) = -1
                put(1, 1, false) = -1
                put(1, 5, true) = -1
                put(1, 5, false) = -1
                put(1, 4, true) = 1
                put(1, 6, true) = 1
                put(3, 1, false) = -1
                put(3, 5, true) = 1
                put(3, 5, false) = 1
                put(5, 1, true) = 1
                put(5, 5, false) = 1
                """);
        Runs.check("writes 1: what fails is no write of its own, and the triple is free for another", rows + """
                put(1, 5, true) = -1
                read(1, 5) = false
                put(5, 5, false) = 1
                abort(1) = 0
                commit(5) = 4
                told(4, 5) = false
                """);
        Runs.check("writes 1: also when tried again, by the triple for which it waited", rows + """
                put(5, 20, true) = 1
                put(3, 20, false) = 0
                put(1, 20, true) = 0
                commit(5) = 4
                state(3) = 2
                state(1) = 2
                conflicts(0, 20) = 2
                conflicts(0, 1) = 0
                abort(3) = 0
                """);
    }

    private static void waitsBeforeItHolds() {
        String held = """
                begin() = 0
                begin() = 1
                begin() = 2
                begin() = 3
                put(0, 10, true) = 1
                """;
        Runs.check("writes 2: it waits for the one that holds the triple, not for one that waits, too", held + """
                put(1, 10, true) = 0
                put(2, 10, true) = 0
                put(3, 9, true) = 1
                put(3, 11, true) = 1
                waits(0) = -1
                waits(1) = 0
                waits(2) = 0
                waits(3) = -1
                """);
        for (boolean there : new boolean[] {true, false}) {
            Runs.check("writes 2: it waits with this write, " + there, held + """
                    put(1, 10, %b) = 0
                    read(1, 10) = false
                    abort(0) = 1
                    state(1) = 0
                    read(1, 10) = %b
                    commit(1) = %d
                    rows() = %d
                    """.formatted(there, there, there ? 1 : 0, there ? 1 : 0));
        }
        Runs.check("writes 2: one that waits itself holds what it held", held + """
                put(1, 11, true) = 1
                put(1, 10, true) = 0
                put(2, 11, true) = 0
                waits(2) = 1
                abort(1) = 1
                state(2) = 0
                waits(2) = -1
                """);
        Runs.check("writes 2: one that ended does not hold", held + """
                put(1, 11, false) = 1
                put(2, 12, true) = 1
                abort(0) = 1
                commit(1) = 0
                abort(2) = 1
                put(3, 10, true) = 1
                put(3, 11, true) = 1
                put(3, 12, true) = 1
                """);
        Runs.check("writes 2: a reader holds nothing, whatever it reads", """
                look(0) = 0
                read(0, 10) = false
                begin() = 1
                read(1, 10) = false
                begin() = 2
                put(2, 10, true) = 1
                """);
    }

    private static void holdsAndWrites() {
        for (boolean last : new boolean[] {true, false}) {
            String writes = """
                    begin() = 0
                    put(0, 5, %b) = 1
                    put(0, 5, %b) = 1
                    put(0, 5, %b) = 1
                    read(0, 5) = %b
                    """.formatted(last, !last, last, last);
            String title = "writes 3: an earlier one to the same triple is no more: ";
            Runs.check(title + "abort", writes + "abort(0) = 1\nrows() = 0");
            Runs.check(title + "commit", writes + "commit(0) = " + (last ? 1 : 0) + "\nstate(0) = 3\nrows() = "
                    + (last ? 1 : 0) + "\nlatest() = " + (last ? 1 : 0));
        }
        Runs.check("writes 3: it holds the triple from now on, and no other one", """
                begin() = 0
                begin() = 1
                put(0, 100, true) = 1
                put(1, 99, true) = 1
                put(1, 101, true) = 1
                put(1, 50, true) = 1
                put(1, 100, true) = 0
                """);
        Runs.check("writes 3: one can hold all", "begin() = 0\nbegin() = 1\n"
                + Runs.each(0, 200, t -> "put(0, " + t + ", " + (t % 2 == 0) + ") = 1") + """
                put(1, 0, true) = 0
                begin() = 2
                put(2, 199, true) = 0
                begin() = 3
                put(3, 101, false) = 0
                abort(0) = 200
                state(1) = 0
                state(2) = 0
                state(3) = 0
                """);
    }

    /** Members have odd numbers, so that others lie among them; the greatest number waits for the least member. */
    private static void ringsOfAnyOrder() {
        for (int size = 2; size <= 5; size++) {
            for (List<Integer> order : orders(size)) {
                Runs.check("rings: the one with the greatest number is aborted, " + order, ringLines(order));
            }
        }
    }

    private static String ringLines(List<Integer> order) {
        int size = order.size();
        int all = 2 * size + 1;
        StringBuilder lines = new StringBuilder(Runs.each(0, all, n -> "begin() = " + n)
                + Runs.each(0, all, n -> "put(" + n + ", " + n + ", true) = 1"));
        lines.append("put(").append(all - 1).append(", 1, true) = 0\n");
        int greatest = 2 * size - 1;
        int[] next = new int[all];
        for (int i = 0; i < size; i++) {
            int member = 2 * order.get(i) + 1;
            next[member] = 2 * order.get((i + 1) % size) + 1;
            int answer = i < size - 1 ? 0 : member == greatest ? -2 : next[member] == greatest ? 1 : 0;
            lines.append("ring(0) = -1\nput(").append(member).append(", ").append(next[member])
                    .append(", true) = ").append(answer).append('\n');
        }
        for (int i = 0; i < size; i++) {
            int member = 2 * i + 1;
            boolean isFree = next[member] == greatest;
            int state = member == greatest ? 4 : isFree ? 0 : 1;
            lines.append("ring(").append(i).append(") = ").append(member).append("\nstate(").append(member)
                    .append(") = ").append(state).append("\nwaits(").append(member).append(") = ")
                    .append(state == 1 ? next[member] : -1).append('\n');
        }
        return lines + "ring(" + size + ") = -1\nwaits(" + (all - 1) + ") = 1\n"
                + Runs.each(0, size, i -> "state(" + 2 * i + ") = 0");
    }

    private static List<List<Integer>> orders(int size) {
        List<List<Integer>> longer = new ArrayList<>();
        if (size == 0) {
            longer.add(List.of());
            return longer;
        }
        for (List<Integer> order : orders(size - 1)) {
            for (int place = 0; place < size; place++) {
                List<Integer> more = new ArrayList<>(order);
                more.add(place, size - 1);
                longer.add(more);
            }
        }
        return longer;
    }

    private static void ringsAndChainsOfAll() {
        String own = Runs.each(0, MOST, n -> "begin() = " + n) + Runs.each(0, MOST, n -> "put(" + n + ", " + n
                + ", true) = 1");
        String up = own + Runs.each(0, MOST - 1, n -> "put(" + n + ", " + (n + 1) + ", true) = 0");
        String down = own + Runs.each(1, MOST, n -> "put(" + n + ", " + (n - 1) + ", true) = 0");
        Runs.check("rings: a chain of 60 that comes to no one again is none", up + """
                put(59, 59, false) = 1
                put(59, 199, false) = 1
                ring(0) = -1
                """ + Runs.each(0, MOST - 1, n -> "waits(" + n + ") = " + (n + 1)) + "abort(59) = 2\nstate(58) = 0\n"
                + Runs.each(0, MOST - 2, n -> "waits(" + n + ") = " + (n + 1)));
        Runs.check("rings: 60 in a ring, the greatest closes it", up + "put(59, 0, true) = -2\n"
                + Runs.each(0, MOST, n -> "ring(" + n + ") = " + n) + "ring(60) = -1\nstate(58) = 0\nstate(59) = 4\n"
                + Runs.each(0, MOST - 2, n -> "waits(" + n + ") = " + (n + 1)));
        Runs.check("rings: 60 in a ring, the least closes it", down + "put(0, 59, true) = 1\n"
                + Runs.each(0, MOST, n -> "ring(" + n + ") = " + n) + "ring(60) = -1\nstate(0) = 0\nstate(59) = 4\n"
                + Runs.each(1, MOST - 1, n -> "waits(" + n + ") = " + (n - 1)));
    }

    private static void ringsAndOthers() {
        Runs.check("rings: another one that waits for the aborted one longer is tried first", """
                begin() = 0
                begin() = 1
                begin() = 2
                put(0, 10, true) = 1
                put(1, 11, true) = 1
                put(2, 11, true) = 0
                put(1, 10, true) = 0
                put(0, 11, true) = 0
                state(1) = 4
                state(2) = 0
                waits(0) = 2
                ring(0) = 0
                ring(1) = 1
                ring(2) = -1
                put(2, 10, true) = -2
                ring(0) = 0
                ring(1) = 2
                ring(2) = -1
                state(0) = 0
                read(0, 11) = true
                """);
        Runs.check("rings: as long as that one waits itself, so none through a failed one", """
                begin() = 0
                begin() = 1
                begin() = 2
                put(0, 10, true) = 1
                put(1, 11, true) = 1
                put(2, 12, true) = 1
                commit(2) = 1
                put(0, 11, true) = 0
                put(1, 12, true) = -1
                begin() = 3
                put(3, 10, true) = 0
                ring(0) = -1
                waits(3) = 0
                waits(0) = 1
                state(1) = 2
                """);
        Runs.check("rings: a write of one that it holds itself is none", """
                begin() = 0
                begin() = 1
                put(0, 10, true) = 1
                put(1, 10, true) = 0
                put(0, 10, false) = 1
                ring(0) = -1
                state(0) = 0
                waits(1) = 0
                """);
    }

    private static void whenAWriterEnds() {
        // 2 began to wait before 1; 3 waits for another triple; 5 waits for another writer and is not tried.
        String waiting = """
                begin() = 0
                begin() = 1
                begin() = 2
                begin() = 3
                begin() = 4
                begin() = 5
                put(0, 10, %b) = 1
                put(0, 11, %b) = 1
                put(4, 12, true) = 1
                put(5, 12, true) = 0
                put(2, 10, true) = 0
                put(1, 10, true) = 0
                put(3, 11, true) = 0
                """;
        String free = """
                state(2) = 0
                waits(1) = 2
                state(3) = 0
                waits(5) = 4
                read(2, 10) = true
                read(1, 10) = false
                read(3, 11) = true
                conflicts(0, 10) = 0
                """;
        String title = "when a writer ends, those that wait are tried again: ";
        Runs.check(title + "abort", waiting.formatted(true, true) + "abort(0) = 2\n" + free);
        Runs.check(title + "commit of nothing", waiting.formatted(false, false) + "commit(0) = 0\n" + free);
        Runs.check(title + "commit of a failed one", waiting.formatted(true, true) + """
                begin() = 6
                put(6, 13, true) = 1
                commit(6) = 1
                put(0, 13, true) = -1
                commit(0) = 0
                """ + free);
        Runs.check(title + "abort of a failed one", waiting.formatted(true, true) + """
                begin() = 6
                put(6, 13, true) = 1
                commit(6) = 1
                put(0, 13, true) = -1
                abort(0) = 2
                """ + free);
        Runs.check(title + "commit refused for a graph", waiting.formatted(true, true) + """
                note(0, 1) = 1
                begin() = 6
                put(6, 50, true) = 1
                commit(6) = 1
                commit(0) = 0
                """ + free);
        Runs.check(title + "abort of one that waits", waiting.formatted(true, true) + """
                put(0, 12, true) = 0
                abort(0) = 2
                """ + free);
        Runs.check(title + "commit of a version fails them", waiting.formatted(true, true) + """
                commit(0) = 1
                state(1) = 2
                state(2) = 2
                state(3) = 2
                waits(5) = 4
                conflicts(0, 10) = 2
                conflicts(0, 11) = 1
                conflicts(0, 12) = 0
                """);
        Runs.check(title + "commit of a version fails those alone whose triple it has", waiting.formatted(true, false)
                + """
                commit(0) = 1
                state(1) = 2
                state(2) = 2
                state(3) = 0
                read(3, 11) = true
                """);
    }

    private static void whenManyWait() {
        String waiting = Runs.each(0, MOST, n -> "begin() = " + n) + "put(0, 10, true) = 1\n"
                + Runs.each(1, MOST, n -> "put(" + (MOST - n) + ", 10, true) = 0");
        String title = "when a writer ends: 59 wait for it, ";
        Runs.check(title + "the one that began to wait first before the others, all the way", waiting
                + Runs.each(0, MOST - 1, n -> "abort(" + (n == 0 ? 0 : MOST - n) + ") = 1\nstate(" + (MOST - 1 - n)
                + ") = 0\nread(" + (MOST - 1 - n) + ", 10) = true\nwaits(1) = " + (n == MOST - 2 ? -1 : MOST - 1 - n)
                + "\nwaits(2) = " + (n >= MOST - 3 ? -1 : MOST - 1 - n)));
        Runs.check(title + "all of them wait for the first one then", waiting + "abort(0) = 1\nstate(59) = 0\n"
                + Runs.each(1, MOST - 1, n -> "waits(" + n + ") = 59"));
        Runs.check(title + "and all fail", waiting + "commit(0) = 1\n" + Runs.each(1, MOST, n -> "state(" + n + ") = 2")
                + "conflicts(0, 10) = 59");
        Runs.check(title + "each with a triple of its own", Runs.each(0, MOST, n -> "begin() = " + n)
                + Runs.each(1, MOST, n -> "put(0, " + n + ", true) = 1")
                + Runs.each(1, MOST, n -> "put(" + n + ", " + n + ", true) = 0") + "abort(0) = 59\n"
                + Runs.each(1, MOST, n -> "state(" + n + ") = 0")
                + Runs.each(1, MOST, n -> "read(" + n + ", " + n + ") = true"));
        Runs.check("when a writer ends: the one that began to wait first, also when it has waited before", """
                begin() = 0
                begin() = 1
                begin() = 2
                begin() = 3
                put(0, 10, true) = 1
                put(3, 11, true) = 1
                put(1, 10, true) = 0
                abort(0) = 1
                put(2, 11, true) = 0
                put(1, 11, true) = 0
                abort(3) = 1
                state(2) = 0
                waits(1) = 2
                """);
    }

    private static void whenNoneWait() {
        Runs.check("when a writer ends: none wait for it, and those that wait for others go on", """
                begin() = 0
                begin() = 1
                begin() = 2
                put(0, 10, true) = 1
                put(1, 11, true) = 1
                put(2, 11, true) = 0
                commit(0) = 1
                waits(2) = 1
                begin() = 3
                put(3, 11, true) = 0
                abort(2) = 0
                waits(3) = 1
                commit(1) = 2
                state(2) = 4
                state(3) = 2
                """);
        Runs.check("when a writer ends, it holds nothing any more, be it all", "begin() = 0\nbegin() = 1\n"
                + Runs.each(0, 200, t -> "put(0, " + t + ", true) = 1") + "abort(0) = 200\n"
                + Runs.each(0, 200, t -> "put(1, " + t + ", true) = 1") + "commit(1) = 1\nrows() = 200");
    }

    private static void failed() {
        String held = """
                begin() = 0
                begin() = 1
                begin() = 2
                put(0, 0, true) = 1
                commit(0) = 1
                put(1, 10, true) = 1
                put(1, 199, true) = 1
                put(1, 0, true) = -1
                begin() = 3
                put(2, 10, true) = 0
                put(3, 199, true) = 0
                waits(2) = 1
                waits(3) = 1
                read(1, 10) = true
                """;
        String free = """
                state(1) = 4
                state(2) = 0
                state(3) = 0
                latest() = 1
                rows() = 1
                """;
        Runs.check("failed ones hold what they held: commit aborts them", held + "commit(1) = 0\n" + free);
        Runs.check("failed ones hold what they held till they are aborted", held + "abort(1) = 2\n" + free);
        Runs.check("failed ones hold what they held, also when they failed as they were tried again", """
                begin() = 0
                begin() = 1
                begin() = 2
                put(0, 0, true) = 1
                put(1, 10, true) = 1
                put(1, 0, false) = 0
                commit(0) = 1
                state(1) = 2
                put(2, 10, true) = 0
                waits(2) = 1
                commit(1) = 0
                state(2) = 0
                """);
    }

    private static void kept() {
        // Version 1 is seen, or not, by one transaction alone when versions 2 and 3 have been made.
        String first = """
                begin() = 0
                put(0, 1, true) = 1
                commit(0) = 1
                """;
        String others = """
                begin() = 2
                put(2, 2, true) = 1
                commit(2) = 2
                begin() = 3
                put(3, 3, true) = 1
                commit(3) = 3
                """;
        String isKept = """
                least() = 1
                told(1, 1) = true
                told(1, 2) = false
                told(0, 1) = throws.IllegalArgumentException
                """;
        String isNot = """
                least() = 3
                told(2, 1) = throws.IllegalArgumentException
                told(3, 1) = true
                """;
        String writer = first + "begin() = 1\n" + others;
        Runs.check("kept: by an open writer, till it commits", writer + isKept + "commit(1) = 1\n" + isNot);
        Runs.check("kept: by an open writer, till it is aborted", writer + isKept + "abort(1) = 0\n" + isNot);
        String reader = first + "look(1) = 1\n" + others;
        Runs.check("kept: by a reader, till it commits", reader + isKept + "commit(1) = 1\n" + isNot);
        Runs.check("kept: by a reader, till it is aborted", reader + isKept + "abort(1) = 0\n" + isNot);
        String failing = writer + "put(1, 2, true) = -1\n";
        Runs.check("kept: by a failed one, till commit aborts it", failing + isKept + "commit(1) = 0\n" + isNot);
        Runs.check("kept: by a failed one, till it is aborted", failing + isKept + "abort(1) = 0\n" + isNot);
        String waiting = writer + "begin() = 4\nput(4, 9, true) = 1\nput(1, 9, true) = 0\n";
        Runs.check("kept: by one that waits, till it is aborted", waiting + isKept + "abort(1) = 0\n" + isNot);
        Runs.check("kept: by one that waits, till it has got its triple and commits", waiting + isKept
                + "abort(4) = 1\n" + isKept + "commit(1) = 4\nleast() = 4");
        Runs.check("kept: a pinned one, till it is pinned no more", first + "begin() = 1\npin(1) = 1\npin(1) = 2\n"
                + "abort(1) = 0\n" + others + isKept + "unpin(1) = 1\n" + isKept + "unpin(1) = 0\n" + isNot);
        Runs.check("kept: the latest one, when nothing else is", first + "begin() = 1\nabort(1) = 0\n" + others + isNot);
        Runs.check("kept: by one that a ring aborts no more", """
                begin() = 0
                begin() = 1
                begin() = 2
                put(0, 1, true) = 1
                commit(0) = 1
                put(1, 11, true) = 1
                put(2, 10, true) = 1
                put(1, 10, true) = 0
                put(2, 11, true) = -2
                least() = 0
                abort(1) = 2
                least() = 1
                """);
    }

    /** Transactions in every state, so that each call can be tried on each of them; 9 waits behind 1. */
    private static final String IN_EVERY_STATE = """
            begin() = 0
            begin() = 1
            begin() = 2
            begin() = 3
            begin() = 4
            begin() = 5
            look(0) = 6
            look(0) = 7
            look(0) = 8
            begin() = 9
            put(0, 10, true) = 1
            put(1, 11, true) = 1
            put(2, 12, true) = 1
            put(3, 20, true) = 1
            put(4, 14, true) = 1
            put(5, 15, true) = 1
            commit(3) = 1
            abort(4) = 1
            put(2, 20, true) = -1
            put(5, 10, true) = 0
            put(0, 15, true) = 1
            put(1, 10, true) = 0
            put(9, 10, true) = 0
            commit(7) = 0
            abort(8) = 0
            """;

    private static void thrown() {
        String title = "thrown: IllegalArgumentException .. else IllegalStateException";
        String state = Runs.STATE;
        String[] reads = {"true", "false", "false", state, state, state, "false", state, state, "false"};
        String[] commits = {"2", state, "0", state, state, state, "0", state, state, state};
        String[] aborts = {"2", "1", "1", state, state, state, "0", state, state, "0"};
        int[] states = {0, 1, 2, 3, 4, 4, 0, 3, 4, 1};
        for (int n = 0; n < 10; n++) {
            String writes = n == 0 ? "1" : state;
            Runs.checkEach(title, IN_EVERY_STATE, """
                    put(%1$d, 30, true) = %2$s
                    put(%1$d, 10, false) = %2$s
                    note(%1$d, 0) = %2$s
                    read(%1$d, 10) = %3$s
                    commit(%1$d) = %4$s
                    abort(%1$d) = %5$s
                    state(%1$d) = %6$d
                    waits(%1$d) = %7$d
                    """.formatted(n, writes, reads[n], commits[n], aborts[n], states[n], n == 1 || n == 9 ? 0 : -1));
            Runs.checkEach(title, IN_EVERY_STATE, Runs.outside("put(" + n + ", #, true)", 200)
                    + Runs.outside("note(" + n + ", #)", 4) + Runs.outside("read(" + n + ", #)", 200));
        }
        Runs.checkEach(title, IN_EVERY_STATE, Runs.outside("put(#, 0, true)", 10) + Runs.outside("note(#, 0)", 10)
                + Runs.outside("read(#, 0)", 10) + Runs.outside("commit(#)", 10) + Runs.outside("abort(#)", 10)
                + Runs.outside("state(#)", 10) + Runs.outside("waits(#)", 10) + Runs.outside("look(#)", 2)
                + Runs.outside("told(#, 0)", 2) + Runs.outside("pin(#)", 2) + Runs.outside("unpin(#)", 0)
                + Runs.outside("conflicts(#, 0)", 2));
    }

    private static void thrownAmongWaits() {
        String refused = """
                put(1, 10, false) = throws.IllegalStateException
                put(1, 11, true) = throws.IllegalStateException
                put(1, 200, true) = throws.IllegalArgumentException
                put(4, 10, true) = throws.IllegalStateException
                put(5, 10, true) = throws.IllegalArgumentException
                note(1, 0) = throws.IllegalStateException
                note(0, 4) = throws.IllegalArgumentException
                commit(1) = throws.IllegalStateException
                commit(5) = throws.IllegalArgumentException
                abort(-1) = throws.IllegalArgumentException
                read(1, 200) = throws.IllegalArgumentException
                state(5) = throws.IllegalArgumentException
                waits(5) = throws.IllegalArgumentException
                look(1) = throws.IllegalArgumentException
                told(1, 10) = throws.IllegalArgumentException
                pin(1) = throws.IllegalArgumentException
                unpin(0) = throws.IllegalArgumentException
                conflicts(2, 0) = throws.IllegalArgumentException
                """;
        Runs.check("thrown: nothing is changed then, nor who began to wait first, nor with which write", """
                begin() = 0
                begin() = 1
                begin() = 2
                begin() = 3
                look(0) = 4
                put(0, 10, true) = 1
                put(1, 10, true) = 0
                """ + refused + "put(3, 10, true) = 0\n" + refused + "put(2, 10, true) = 0\n" + refused + """
                abort(0) = 1
                state(1) = 0
                read(1, 10) = true
                waits(3) = 1
                waits(2) = 1
                abort(1) = 1
                state(3) = 0
                waits(2) = 3
                commit(3) = 1
                state(2) = 2
                """);
    }
}
