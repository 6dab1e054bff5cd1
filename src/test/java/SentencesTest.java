import java.io.IOException;

/**
 * The document from its first line to its last, each sentence (or each part of a long one) with runs that
 * fail if it is broken. The words are compared with the document, so none is left out.
 */
public final class SentencesTest {
    private static final int MOST = 60;

    private static Document document;
    private static String head = "";
    private static String words = "";

    private SentencesTest() {
    }

    public static void main(String[] args) throws IOException {
        document = new Document();
        document.says("# VersionTrans");
        whatItIs();
        under("The public face");
        triplesAndVersions();
        transactions();
        writes();
        rings();
        whenAWriterEnds();
        theQueue();
        failedOnes();
        kept();
        thrown();
        nothingIsChangedThen();
        newObjectBeginAndLook();
        put();
        note();
        readAndTold();
        commit();
        commitOfNone();
        abort();
        pinAndUnpin();
        free();
        rowsLatestAndLeast();
        stateAndWaits();
        ring();
        conflicts();
        notPromised();
        document.end();
        Runs.end();
    }

    private static void under(String newHead) {
        head = newHead;
        document.says("## " + newHead);
        document.skipCode();
    }

    /** The next words of the document, for which the runs behind this call stand. */
    private static void says(String newWords) {
        words = newWords;
        document.says(newWords);
    }

    private static void run(String lines) {
        Runs.check(head + ": \"" + words + "\"", lines);
    }

    private static void runEach(String beginning, String lines) {
        Runs.checkEach(head + ": \"" + words + "\"", beginning, lines);
    }

    private static void whatItIs() {
        under("What it is");
        says("Triples in versions: transactions see one version and their own writes,");
        run("""
                begin() = 0
                put(0, 5, true) = 1
                commit(0) = 1
                begin() = 1
                look(1) = 2
                put(1, 6, true) = 1
                put(1, 5, false) = 1
                begin() = 3
                put(3, 7, true) = 1
                commit(3) = 2
                read(1, 5) = false
                read(1, 6) = true
                read(1, 7) = false
                read(2, 5) = true
                read(2, 6) = false
                read(2, 7) = false
                """);
        says("wait for one another,");
        run("""
                begin() = 0
                begin() = 1
                put(0, 5, true) = 1
                put(1, 5, false) = 0
                state(1) = 1
                waits(1) = 0
                abort(0) = 1
                state(1) = 0
                waits(1) = -1
                """);
        says("fail where another one was first,");
        run("""
                begin() = 0
                begin() = 1
                put(1, 5, true) = 1
                commit(1) = 1
                put(0, 5, true) = -1
                state(0) = 2
                """);
        says("and make the next version whole or not at all;");
        String three = """
                begin() = 0
                begin() = 1
                begin() = 2
                put(0, 0, true) = 1
                put(0, 100, true) = 1
                put(0, 199, true) = 1
                """;
        String none = """
                latest() = %1$d
                rows() = %1$d
                told(%1$d, 0) = false
                told(%1$d, 100) = false
                told(%1$d, 199) = false
                """;
        run(three + none.formatted(0) + """
                commit(0) = 1
                latest() = 1
                rows() = 3
                told(0, 0) = false
                told(0, 100) = false
                told(0, 199) = false
                told(1, 0) = true
                told(1, 100) = true
                told(1, 199) = true
                """);
        run(three + "abort(0) = 3\n" + none.formatted(0));
        run(three + "put(1, 60, true) = 1\ncommit(1) = 1\nput(0, 60, true) = -1\ncommit(0) = 0\n" + none.formatted(1));
        run(three + "note(0, 1) = 1\nput(1, 60, true) = 1\ncommit(1) = 1\ncommit(0) = 0\n" + none.formatted(1));
        says("old versions are kept as long as somebody wants them.");
        run("""
                look(0) = 0
                pin(0) = 1
                begin() = 1
                put(1, 5, true) = 1
                commit(1) = 1
                told(0, 5) = false
                commit(0) = 0
                told(0, 5) = false
                unpin(0) = 0
                told(0, 5) = throws.IllegalArgumentException
                told(1, 5) = true
                """);
        run("""
                look(0) = 0
                begin() = 1
                put(1, 5, true) = 1
                commit(1) = 1
                told(0, 5) = false
                look(0) = 2
                commit(0) = 0
                told(0, 5) = false
                abort(2) = 0
                told(0, 5) = throws.IllegalArgumentException
                """);
        says("An object is used for at most 512 calls after it has been made; what later calls answer is free.");
        run("begin() = 0\n" + Runs.each(0, 508, n -> "put(0, " + n % 200 + ", " + (n / 200 % 2 == 0) + ") = 1") + """
                commit(0) = 1
                rows() = 108
                told(1, 107) = true
                """);
    }

    private static void triplesAndVersions() {
        under("Terms");
        says("TRIPLES are numbers 0 .. 199;");
        runEach("begin() = 0", """
                put(0, 0, true) = 1
                put(0, 199, true) = 1
                read(0, 0) = false
                read(0, 199) = false
                told(0, 0) = false
                told(0, 199) = false
                conflicts(0, 0) = 0
                conflicts(0, 199) = 0
                """ + Runs.outside("put(0, #, true)", 200) + Runs.outside("read(0, #)", 200)
                + Runs.outside("told(0, #)", 200) + Runs.outside("conflicts(0, #)", 200));
        run("begin() = 0\n" + Runs.each(0, 200, t -> "put(0, " + t + ", " + (t % 3 == 0) + ") = 1") + "commit(0) = 1\n"
                + Runs.each(0, 200, t -> "told(1, " + t + ") = " + (t % 3 == 0)));
        says("triple t lies in GRAPH t / 50 (0 .. 3).");
        for (int triple : new int[] {0, 1, 49, 50, 51, 99, 100, 101, 149, 150, 151, 199}) {
            for (int graph = 0; graph < 4; graph++) {
                run("""
                        begin() = 0
                        begin() = 1
                        note(0, %d) = 1
                        put(1, %d, true) = 1
                        commit(1) = 1
                        commit(0) = 0
                        state(0) = %d
                        """.formatted(graph, triple, triple / 50 == graph ? 4 : 3));
            }
        }
        runEach("begin() = 0", Runs.each(0, 4, g -> "note(0, " + g + ") = 1") + Runs.outside("note(0, #)", 4)
                + Runs.each(0, 4, g -> "conflicts(1, " + g + ") = 0") + Runs.outside("conflicts(1, #)", 4));
        says("VERSIONS are numbered 0, 1, ..;");
        run("pin(0) = 1\n" + Runs.each(0, MOST, n -> "begin() = " + n + "\nput(" + n + ", " + n + ", true) = 1\ncommit("
                + n + ") = " + (n + 1)) + Runs.each(0, MOST + 1, v -> "told(" + v + ", 0) = " + (v > 0))
                + "told(61, 0) = " + Runs.ARGUMENT + "\ntold(-1, 0) = " + Runs.ARGUMENT);
        says("in version 0 no triple is there;");
        run(Runs.each(0, 200, t -> "told(0, " + t + ") = false"));
        run("look(0) = 0\nbegin() = 1\n" + Runs.each(0, 200, t -> "put(1, " + t + ", true) = 1") + "commit(1) = 1\n"
                + Runs.each(0, 200, t -> "told(0, " + t + ") = false"));
        says("LATEST is the greatest number.");
        run("""
                latest() = 0
                look(1) = throws.IllegalArgumentException
                begin() = 0
                put(0, 5, true) = 1
                commit(0) = 1
                latest() = 1
                look(1) = 1
                look(2) = throws.IllegalArgumentException
                """);
        rowsTellVersions();
    }

    private static void rowsTellVersions() {
        // Triple 5 has rows in versions 1 (there), 3 (not) and 4 (there); triple 6 has one in 2 (there).
        String versions = """
                pin(0) = 1
                begin() = 0
                put(0, 5, true) = 1
                commit(0) = 1
                begin() = 1
                put(1, 6, true) = 1
                commit(1) = 2
                begin() = 2
                put(2, 5, false) = 1
                commit(2) = 3
                begin() = 3
                put(3, 5, true) = 1
                commit(3) = 4
                """;
        says("Rows (triple, version, there or not) tell them: of a triple in a version the row with the greatest"
                + " number that is not above it counts");
        run(versions + """
                rows() = 4
                told(1, 5) = true
                told(2, 5) = true
                told(3, 5) = false
                told(4, 5) = true
                told(2, 6) = true
                told(3, 6) = true
                told(4, 6) = true
                """);
        says("(not there, when there is none).");
        run(versions + """
                told(0, 5) = false
                told(0, 6) = false
                told(1, 6) = false
                told(4, 7) = false
                told(4, 199) = false
                """);
    }

    private static void transactions() {
        says("TRANSACTIONS are numbered from 0, at most 60;");
        run(Runs.each(0, MOST, n -> (n % 3 == 0 ? "look(0) = " : "begin() = ") + n) + """
                begin() = throws.IllegalStateException
                look(0) = throws.IllegalStateException
                state(0) = 0
                state(59) = 0
                state(60) = throws.IllegalArgumentException
                """);
        run("begin() = 0\nlook(0) = 1\nabort(0) = 0\ncommit(1) = 0\nbegin() = 2\nlook(0) = 3");
        run(Runs.each(0, MOST, n -> "begin() = " + n + "\nabort(" + n + ") = 0") + "begin() = " + Runs.STATE);
        says("a WRITER or a READER,");
        run("""
                begin() = 0
                look(0) = 1
                put(0, 5, true) = 1
                put(1, 5, true) = throws.IllegalStateException
                note(0, 0) = 1
                note(1, 0) = throws.IllegalStateException
                """);
        says("each SEES a version.");
        run("""
                begin() = 0
                look(0) = 1
                begin() = 2
                put(2, 5, true) = 1
                commit(2) = 1
                begin() = 3
                look(1) = 4
                look(0) = 5
                read(0, 5) = false
                read(1, 5) = false
                read(3, 5) = true
                read(4, 5) = true
                read(5, 5) = false
                commit(0) = 0
                commit(1) = 0
                commit(3) = 1
                commit(4) = 1
                commit(5) = 0
                """);
        says("A transaction is OPEN, WAITS, has FAILED, or has ENDED.");
        run("""
                begin() = 0
                begin() = 1
                begin() = 2
                begin() = 3
                begin() = 4
                put(0, 5, true) = 1
                put(1, 5, true) = 0
                put(3, 6, true) = 1
                commit(3) = 1
                put(2, 6, true) = -1
                abort(4) = 0
                state(0) = 0
                state(1) = 1
                state(2) = 2
                state(3) = 3
                state(4) = 4
                """);
    }

    private static void writes() {
        // Triple 5 has a row in version 1, triple 6 one in version 2; 2 sees version 0, 3 sees 1, 5 sees 2.
        // Of the triples with a row above what 2 or 3 sees, 5 holds one; it holds triple 7, too.
        String rows = """
                begin() = 0
                begin() = 1
                begin() = 2
                put(0, 5, true) = 1
                commit(0) = 1
                begin() = 3
                begin() = 4
                put(4, 6, true) = 1
                commit(4) = 2
                begin() = 5
                put(5, 6, false) = 1
                put(5, 7, true) = 1
                """;
        says("WRITES. When a writer writes a triple, the first of these that fits:");
        run(rows + """
                put(2, 6, true) = -1
                put(3, 7, true) = 0
                put(5, 7, false) = 1
                put(1, 8, true) = 1
                waits(2) = -1
                waits(3) = 5
                """);
        says("1 a version above the one that it sees has a row of the triple: it FAILS, by the triple.");
        runEach(rows, """
                put(2, 5, true) = -1
                put(2, 5, false) = -1
                put(2, 6, false) = -1
                put(3, 6, true) = -1
                put(3, 5, true) = 1
                put(3, 5, false) = 1
                put(5, 5, false) = 1
                put(2, 4, true) = 1
                """);
        run(rows + """
                put(2, 5, true) = -1
                state(2) = 2
                conflicts(0, 5) = 1
                conflicts(0, 6) = 0
                put(5, 5, true) = 1
                abort(2) = 0
                """);
        says("2 another writer HOLDS the triple: it WAITS for that one, with this write.");
        for (boolean there : new boolean[] {true, false}) {
            run(rows + """
                    put(5, 5, false) = 1
                    put(3, 7, %1$b) = 0
                    state(3) = 1
                    waits(3) = 5
                    read(3, 7) = false
                    put(5, 7, %2$b) = 1
                    abort(5) = 3
                    read(3, 7) = %1$b
                    abort(3) = 1
                    """.formatted(there, !there));
        }
        says("3 it holds the triple from now on, and the write is one of its own"
                + " (an earlier one to the same triple is no more).");
        run(rows + """
                put(1, 8, true) = 1
                read(1, 8) = true
                put(3, 8, true) = 0
                put(1, 8, false) = 1
                read(1, 8) = false
                put(1, 9, true) = 1
                waits(3) = 1
                abort(1) = 2
                """);
        run(rows + "put(1, 8, false) = 1\nput(3, 8, true) = 0\nwaits(3) = 1\nabort(1) = 1");
        run("begin() = 0\nput(0, 8, true) = 1\nput(0, 8, false) = 1\ncommit(0) = 0\nrows() = 0");
        run("begin() = 0\nput(0, 8, false) = 1\nput(0, 8, true) = 1\ncommit(0) = 1\nrows() = 1");
    }

    private static void rings() {
        // 3 holds 13 and stands outside; each of the others holds a triple of its own.
        String own = Runs.each(0, 5, n -> "begin() = " + n) + Runs.each(0, 5, n -> "put(" + n + ", 1" + n
                + ", true) = 1");
        says("RINGS. When a writer begins to wait, and going from it to the one for which it waits, and so on");
        run(own + "put(0, 11, true) = 0\nput(1, 10, true) = -2\nring(0) = 0\nring(1) = 1\nring(2) = -1");
        run(own + """
                put(3, 10, true) = 0
                put(0, 14, true) = 0
                put(4, 12, true) = 0
                ring(0) = -1
                put(2, 10, true) = 0
                ring(0) = 0
                ring(1) = 2
                ring(2) = 4
                ring(3) = -1
                """);
        says("(as long as that one waits itself),");
        run(own + """
                put(0, 11, true) = 0
                put(1, 12, true) = 0
                ring(0) = -1
                state(2) = 0
                put(2, 13, true) = 0
                ring(0) = -1
                state(3) = 0
                """);
        run(own + """
                begin() = 5
                put(5, 20, true) = 1
                commit(5) = 1
                put(0, 11, true) = 0
                put(1, 20, true) = -1
                put(2, 10, true) = 0
                ring(0) = -1
                state(1) = 2
                waits(0) = 1
                waits(2) = 0
                """);
        says("one comes to it again, those are a RING:");
        run(own + "put(3, 10, true) = 0\nput(1, 13, true) = 0\nput(4, 11, true) = 0\nring(0) = -1\nstate(0) = 0\n"
                + "waits(1) = 3\nwaits(3) = 0\nwaits(4) = 1");
        run(own + """
                put(1, 12, true) = 0
                put(2, 13, true) = 0
                put(0, 12, true) = 0
                ring(0) = -1
                put(3, 12, true) = -2
                ring(0) = 2
                ring(1) = 3
                ring(2) = -1
                waits(0) = 2
                waits(1) = 2
                """);
        says("the one with the greatest number among them is aborted.");
        String three = "ring(0) = 1\nring(1) = 2\nring(2) = 4\nstate(4) = 4\n";
        run(own + "put(1, 12, true) = 0\nput(2, 14, true) = 0\nput(4, 11, true) = -2\nstate(1) = 1\nstate(2) = 0\n"
                + three);
        run(own + "put(2, 14, true) = 0\nput(4, 11, true) = 0\nput(1, 12, true) = 0\nstate(1) = 1\nstate(2) = 0\n"
                + three);
        run(own + "put(4, 11, true) = 0\nput(1, 12, true) = 0\nput(2, 14, true) = 1\nstate(1) = 1\nstate(2) = 0\n"
                + three);
        run(own + "put(1, 14, true) = 0\nput(2, 11, true) = 0\nput(4, 12, true) = -2\nstate(1) = 0\nstate(2) = 1\n"
                + three);
        run(own + "put(2, 11, true) = 0\nput(4, 12, true) = 0\nput(1, 14, true) = 1\nstate(1) = 0\nstate(2) = 1\n"
                + three);
    }

    private static void whenAWriterEnds() {
        // 0 holds 10 and 11; 3 wants 11; 2 began to wait for 10 before 1; 4 waits for 5, which goes on.
        String waiting = """
                begin() = 0
                begin() = 1
                begin() = 2
                begin() = 3
                begin() = 4
                begin() = 5
                begin() = 6
                put(0, 10, %1$b) = 1
                put(0, 11, %1$b) = 1
                put(5, 15, true) = 1
                put(4, 15, true) = 0
                put(2, 10, true) = 0
                put(3, 11, true) = 0
                put(1, 10, false) = 0
                """;
        String changing = waiting.formatted(true);
        String another = "put(6, 60, true) = 1\ncommit(6) = 1\n";
        says("WHEN A WRITER ENDS, it holds nothing any more,");
        String nothing = "begin() = 7\nput(7, 12, true) = 1\nput(7, 13, true) = 1\n";
        String held = "put(0, 12, %1$b) = 1\nput(0, 13, %1$b) = 1\n";
        run(changing + held.formatted(true) + "commit(0) = 1\n" + nothing);
        run(changing + held.formatted(true) + "abort(0) = 4\n" + nothing);
        run(changing + held.formatted(true) + "put(0, 15, true) = 0\nabort(0) = 4\n" + nothing);
        run(waiting.formatted(false) + held.formatted(false) + "commit(0) = 0\nstate(0) = 3\n" + nothing);
        run(changing + held.formatted(true) + "note(0, 1) = 1\n" + another + "commit(0) = 0\n" + nothing);
        run(changing + held.formatted(true) + another + "put(0, 60, true) = -1\ncommit(0) = 0\n" + nothing);
        run(changing + "put(6, 12, true) = 1\nput(6, 13, true) = 1\nput(6, 10, true) = 0\nput(0, 12, true) = 1\n"
                + "state(6) = 4\nbegin() = 7\nput(7, 13, true) = 1");
        says("and those that wait for it come behind a QUEUE, the one that began to wait first before the others.");
        String firstIsTwo = "state(2) = 0\nread(2, 10) = true\nwaits(1) = 2\nstate(3) = 0\nread(3, 11) = true\n"
                + "waits(4) = 5\n";
        run(changing + "abort(0) = 2\n" + firstIsTwo + "abort(2) = 1\nstate(1) = 0\nread(1, 10) = false");
        run(waiting.formatted(false) + "commit(0) = 0\n" + firstIsTwo);
        run(changing + "note(0, 1) = 1\n" + another + "commit(0) = 0\n" + firstIsTwo);
        run(changing + another + "put(0, 60, true) = -1\ncommit(0) = 0\n" + firstIsTwo);
        run(changing + "put(6, 10, true) = 0\nabort(2) = 0\nabort(0) = 2\nstate(1) = 0\nwaits(6) = 1");
    }

    private static void theQueue() {
        says("Then, as long as the queue has any, its first one leaves it, and if it still waits,"
                + " its write is tried again, as above");
        String all = Runs.each(0, MOST, n -> "begin() = " + n) + Runs.each(1, MOST, n -> "put(0, " + n + ", true) = 1")
                + Runs.each(1, MOST, n -> "put(" + (MOST - n) + ", " + (MOST - n) + ", false) = 0");
        run(all + "abort(0) = 59\n" + Runs.each(1, MOST, n -> "state(" + n + ") = 0"));
        run(all + "commit(0) = 1\n" + Runs.each(1, MOST, n -> "state(" + n + ") = 2\nconflicts(0, " + n + ") = 1"));
        says("(it may begin to wait for another one;");
        run("""
                begin() = 0
                begin() = 1
                begin() = 2
                begin() = 3
                put(0, 10, true) = 1
                put(3, 10, true) = 0
                put(1, 10, true) = 0
                put(2, 10, true) = 0
                abort(0) = 1
                waits(1) = 3
                waits(2) = 3
                abort(3) = 1
                state(1) = 0
                waits(2) = 1
                commit(1) = 1
                state(2) = 2
                """);
        says("what is aborted by a ring then ends, too, and puts its own behind the queue).");
        // No write that is tried again closes a ring (who got the triple is open), so a put must.
        String ring = """
                begin() = 0
                begin() = 1
                begin() = 2
                begin() = 3
                put(0, 10, true) = 1
                put(3, 13, true) = 1
                put(3, 14, true) = 1
                put(2, 13, true) = 0
                put(1, 14, true) = 0
                put(3, 10, true) = 0
                """;
        run(ring + """
                put(0, 13, true) = 0
                state(3) = 4
                state(2) = 0
                read(2, 13) = true
                state(1) = 0
                read(1, 14) = true
                waits(0) = 2
                """);
        says("That is done before a call answers.");
        run(ring + "put(0, 14, true) = 0\nwaits(0) = 1");
        run(ring + "abort(1) = 0\nput(0, 14, true) = 1\nwaits(2) = -1");
        run("begin() = 0\nbegin() = 1\nput(0, 5, true) = 1\nput(1, 5, true) = 0\ncommit(0) = 1\nput(1, 6, true) = "
                + Runs.STATE + "\nput(1, 200, true) = " + Runs.ARGUMENT + "\ncommit(1) = 0\nconflicts(0, 5) = 1");
        run("begin() = 0\nbegin() = 1\nput(0, 5, true) = 1\nput(1, 5, true) = 0\nabort(0) = 1\nput(1, 6, true) = 1\n"
                + "commit(1) = 1\nrows() = 2");
    }

    private static void failedOnes() {
        String failing = """
                begin() = 0
                begin() = 1
                begin() = 2
                begin() = 3
                put(0, 0, true) = 1
                commit(0) = 1
                put(1, 10, true) = 1
                put(1, 199, false) = 1
                put(1, 0, true) = -1
                put(2, 10, true) = 0
                put(3, 199, true) = 0
                waits(2) = 1
                waits(3) = 1
                read(1, 10) = true
                """;
        String free = "state(1) = 4\nstate(2) = 0\nstate(3) = 0\nread(2, 10) = true\nread(3, 199) = true";
        says("FAILED ones hold what they held till they are aborted;");
        run(failing + "abort(1) = 2\n" + free);
        says("COMMIT aborts them.");
        run(failing + "commit(1) = 0\n" + free + "\nlatest() = 1\nrows() = 1");
    }

    private static void kept() {
        // Version 1 is seen by 1 alone; versions 2 and 3 come behind it.
        String seen = """
                begin() = 0
                put(0, 1, true) = 1
                commit(0) = 1
                %s = 1
                begin() = 2
                put(2, 2, true) = 1
                commit(2) = 2
                begin() = 3
                put(3, 3, true) = 1
                commit(3) = 3
                """;
        String isKept = "least() = 1\nlook(0) = throws.IllegalArgumentException\ntold(1, 2) = false\n";
        String isNot = "least() = 3\nlook(1) = throws.IllegalArgumentException\n"
                + "look(2) = throws.IllegalArgumentException\ntold(3, 2) = true\n";
        String writer = seen.formatted("begin()");
        says("KEPT are versions that an open,");
        run(writer + isKept + "commit(1) = 1\n" + isNot);
        run(writer + isKept + "abort(1) = 0\n" + isNot);
        run(seen.formatted("look(1)") + isKept + "commit(1) = 1\n" + isNot);
        run(seen.formatted("look(1)") + isKept + "abort(1) = 0\n" + isNot);
        says("waiting");
        run(writer + "begin() = 4\nput(4, 9, true) = 1\nput(1, 9, true) = 0\n" + isKept + "abort(1) = 0\n" + isNot);
        says("or failed transaction sees,");
        run(writer + "put(1, 3, true) = -1\n" + isKept + "abort(1) = 0\n" + isNot);
        run(writer + "put(1, 3, true) = -1\n" + isKept + "commit(1) = 0\n" + isNot);
        says("those that are pinned,");
        run("""
                begin() = 0
                put(0, 1, true) = 1
                commit(0) = 1
                pin(1) = 1
                begin() = 1
                put(1, 2, true) = 1
                commit(1) = 2
                begin() = 2
                put(2, 3, true) = 1
                commit(2) = 3
                """ + isKept + "unpin(1) = 0\n" + isNot);
        says("and the latest one.");
        run("begin() = 0\nput(0, 1, true) = 1\ncommit(0) = 1\nleast() = 1\nlook(0) = throws.IllegalArgumentException\n"
                + "told(1, 1) = true\nlook(1) = 1");
        says("A version below the least kept one can be told as long as its rows are not FREED.");
        // No call tells it (promise 7), so what shows is that its rows are there till free drops them.
        run("""
                begin() = 0
                put(0, 1, true) = 1
                commit(0) = 1
                begin() = 1
                put(1, 1, false) = 1
                put(1, 2, true) = 1
                commit(1) = 2
                least() = 2
                rows() = 3
                told(1, 1) = throws.IllegalArgumentException
                rows() = 3
                free() = 2
                rows() = 1
                told(1, 1) = throws.IllegalArgumentException
                """);
    }

    /** 0 is an open writer, 1 waits for it, 2 has failed, 3 committed, 4 aborted; 5 is a reader, 6 and 7 were. */
    private static final String IN_EVERY_STATE = """
            begin() = 0
            begin() = 1
            begin() = 2
            begin() = 3
            begin() = 4
            look(0) = 5
            look(0) = 6
            look(0) = 7
            put(3, 20, true) = 1
            commit(3) = 1
            put(0, 10, true) = 1
            put(1, 10, true) = 0
            put(2, 20, true) = -1
            abort(4) = 0
            commit(6) = 0
            abort(7) = 0
            """;

    private static void thrown() {
        says("THROWN: IllegalArgumentException where there is no such transaction,");
        runEach(IN_EVERY_STATE, Runs.outside("put(#, 30, true)", 8) + Runs.outside("note(#, 0)", 8)
                + Runs.outside("read(#, 30)", 8) + Runs.outside("commit(#)", 8) + Runs.outside("abort(#)", 8)
                + Runs.outside("state(#)", 8) + Runs.outside("waits(#)", 8));
        says("triple,");
        runEach(IN_EVERY_STATE, Runs.outside("put(0, #, true)", 200) + Runs.outside("read(0, #)", 200)
                + Runs.outside("told(1, #)", 200) + Runs.outside("conflicts(0, #)", 200));
        says("graph");
        runEach(IN_EVERY_STATE, Runs.outside("note(0, #)", 4) + Runs.outside("conflicts(1, #)", 4));
        says("or version;");
        runEach(IN_EVERY_STATE, Runs.outside("look(#)", 2) + Runs.outside("told(#, 30)", 2)
                + Runs.outside("pin(#)", 2) + Runs.outside("unpin(#)", 2) + "unpin(0) = " + Runs.ARGUMENT);
        says("else IllegalStateException");
        for (int ended = 1; ended < 8; ended++) {
            runEach(IN_EVERY_STATE, "put(" + ended + ", 30, true) = " + Runs.STATE + "\nput(" + ended
                    + ", 200, true) = " + Runs.ARGUMENT + "\nnote(" + ended + ", 0) = " + Runs.STATE + "\nnote("
                    + ended + ", 4) = " + Runs.ARGUMENT + "\nread(" + ended + ", 200) = " + Runs.ARGUMENT);
        }
        run(Runs.each(0, MOST, n -> "begin() = " + n) + "look(1) = " + Runs.ARGUMENT + "\nlook(0) = " + Runs.STATE);
        says("where it has ended,");
        for (int ended : new int[] {3, 4, 6, 7}) {
            runEach(IN_EVERY_STATE, """
                    put(#, 30, true) = throws.IllegalStateException
                    note(#, 0) = throws.IllegalStateException
                    read(#, 30) = throws.IllegalStateException
                    commit(#) = throws.IllegalStateException
                    abort(#) = throws.IllegalStateException
                    """.replace("#", "" + ended));
        }
        says("waits");
        runEach(IN_EVERY_STATE, """
                put(1, 30, true) = throws.IllegalStateException
                put(1, 10, true) = throws.IllegalStateException
                note(1, 0) = throws.IllegalStateException
                commit(1) = throws.IllegalStateException
                """);
        says("or has failed,");
        runEach(IN_EVERY_STATE, """
                put(2, 30, true) = throws.IllegalStateException
                put(2, 20, true) = throws.IllegalStateException
                note(2, 0) = throws.IllegalStateException
                """);
        says("is a reader where a writer is wanted,");
        runEach(IN_EVERY_STATE, """
                put(5, 30, true) = throws.IllegalStateException
                note(5, 0) = throws.IllegalStateException
                """);
        says("or where there is no room for one more.");
        runEach(Runs.each(0, MOST - 1, n -> "begin() = " + n), "begin() = 59\nlook(0) = 59");
        runEach(Runs.each(0, MOST, n -> "begin() = " + n), "begin() = " + Runs.STATE + "\nlook(0) = " + Runs.STATE);
    }

    private static void nothingIsChangedThen() {
        says("Nothing is changed then.");
        // Each refused call of a run is held against an object without it (Unchanged), here in a busy state.
        run(IN_EVERY_STATE + """
                pin(1) = 1
                put(1, 30, true) = throws.IllegalStateException
                put(0, 200, true) = throws.IllegalArgumentException
                put(5, 30, true) = throws.IllegalStateException
                note(1, 1) = throws.IllegalStateException
                note(0, 4) = throws.IllegalArgumentException
                read(3, 10) = throws.IllegalStateException
                told(2, 10) = throws.IllegalArgumentException
                commit(1) = throws.IllegalStateException
                commit(3) = throws.IllegalStateException
                abort(4) = throws.IllegalStateException
                pin(2) = throws.IllegalArgumentException
                unpin(0) = throws.IllegalArgumentException
                look(2) = throws.IllegalArgumentException
                state(8) = throws.IllegalArgumentException
                waits(8) = throws.IllegalArgumentException
                conflicts(0, 200) = throws.IllegalArgumentException
                conflicts(1, 4) = throws.IllegalArgumentException
                begin() = 8
                abort(0) = 1
                note(1, 0) = 1
                read(1, 10) = true
                commit(1) = 0
                conflicts(1, 0) = 1
                """);
        run(Runs.each(0, MOST, n -> "begin() = " + n) + """
                begin() = throws.IllegalStateException
                look(0) = throws.IllegalStateException
                abort(0) = 0
                begin() = throws.IllegalStateException
                """);
    }

    private static void newObjectBeginAndLook() {
        under("Promise 1: A new object");
        says("Version 0 alone, no transactions.");
        runEach("latest() = 0", """
                least() = 0
                rows() = 0
                free() = 0
                ring(0) = -1
                conflicts(0, 0) = 0
                conflicts(1, 0) = 0
                pin(0) = 1
                pin(1) = throws.IllegalArgumentException
                look(1) = throws.IllegalArgumentException
                begin() = 0
                look(0) = 0
                state(0) = throws.IllegalArgumentException
                unpin(0) = throws.IllegalArgumentException
                """);
        under("Promise 2: begin");
        // 1 is a reader of version 0, and version 0 is pinned, when version 1 is the latest.
        String old = """
                begin() = 0
                look(0) = 1
                pin(0) = 1
                put(0, 5, true) = 1
                commit(0) = 1
                """;
        says("A writer begins,");
        run(old + "begin() = 2\nstate(2) = 0\nput(2, 6, true) = 1\nnote(2, 0) = 1\ncommit(2) = 2");
        says("and sees the latest version:");
        run(old + "begin() = 2\nread(2, 5) = true\nput(2, 5, true) = 1\ncommit(2) = 1");
        says("its number.");
        run(old + "begin() = 2\nbegin() = 3\nlook(0) = 4\nbegin() = 5");
        under("Promise 3: look");
        says("A reader begins");
        run(old + "look(1) = 2\nstate(2) = 0\nput(2, 6, true) = throws.IllegalStateException\n"
                + "note(2, 0) = throws.IllegalStateException");
        says("that sees a version,");
        run(old + "look(0) = 2\nlook(1) = 3\nread(2, 5) = false\nread(3, 5) = true\ncommit(2) = 0\ncommit(3) = 1");
        says("one not below the least that is kept:");
        run(old + """
                abort(1) = 0
                look(0) = 2
                unpin(0) = 0
                look(0) = 3
                abort(2) = 0
                commit(3) = 0
                look(0) = throws.IllegalArgumentException
                look(1) = 4
                """);
        says("its number.");
        run(old + "look(0) = 2\nlook(1) = 3\nbegin() = 4\nlook(0) = 5");
    }

    private static void put() {
        // 1 waits for 2, which holds 12; triple 9 has a row above what 1, 2 and 3 see; 3 holds 13.
        String set = """
                begin() = 0
                begin() = 1
                begin() = 2
                begin() = 3
                put(0, 9, true) = 1
                commit(0) = 1
                put(1, 11, true) = 1
                put(2, 12, true) = 1
                put(3, 13, true) = 1
                put(1, 12, true) = 0
                """;
        under("Promise 4: put");
        says("A writer writes that a triple is there, or is not:");
        run(set + """
                put(2, 20, true) = 1
                put(2, 21, false) = 1
                read(2, 20) = true
                read(2, 21) = false
                put(2, 20, false) = 1
                put(2, 21, true) = 1
                read(2, 20) = false
                read(2, 21) = true
                """);
        says("1 when it is done,");
        run(set + "put(2, 20, true) = 1\nput(2, 12, false) = 1\nstate(2) = 0");
        says("0 when it waits,");
        run(set + "put(3, 12, true) = 0\nstate(3) = 1");
        says("-1 when it has failed,");
        run(set + "put(3, 9, true) = -1\nstate(3) = 2");
        says("-2 when it was aborted by a ring;");
        run(set + "put(2, 11, true) = -2\nstate(2) = 4");
        says("as it is when all is done that comes of it.");
        run(set + "put(3, 11, true) = 0\nput(2, 13, true) = 1\nstate(3) = 4\nstate(2) = 0\nread(2, 13) = true");
        run(set + "begin() = 4\nput(3, 11, true) = 0\nput(4, 12, true) = 0\nput(2, 13, true) = 1\nwaits(4) = 2");
        says("(Also when the triple is there already, or not.)");
        // For 4, 5 and 6 triple 9 is there, and triple 20 is not.
        String later = set + "begin() = 4\nbegin() = 5\nbegin() = 6\n";
        run(later + "put(4, 9, true) = 1\nput(4, 20, false) = 1\nput(5, 9, true) = 0\nput(6, 20, false) = 0\n"
                + "waits(5) = 4\nwaits(6) = 4\nabort(4) = 2\nabort(5) = 1\nabort(6) = 1");
        run(later + "put(4, 9, false) = 1\nput(4, 20, true) = 1\ncommit(4) = 2\nput(5, 9, true) = -1\n"
                + "put(6, 20, false) = -1");
        run(later + "put(4, 9, true) = 1\nput(5, 20, false) = 1\nput(4, 20, false) = 0\nput(5, 9, true) = -2");
    }

    private static void note() {
        // 1 and 2 see version 0, 3 sees version 1, which has a row of graph 1; version 2 has one of graph 3.
        String set = """
                begin() = 0
                begin() = 1
                begin() = 2
                put(0, 60, true) = 1
                commit(0) = 1
                begin() = 3
                begin() = 4
                put(4, 160, true) = 1
                commit(4) = 2
                """;
        under("Promise 5: note");
        says("A writer notes that it has read a graph: when it commits, no version above the one that it sees may have"
                + " a row of the graph.");
        runEach(set + "note(1, 1) = 1\nput(1, 5, true) = 1", "commit(1) = 0");
        run(set + "note(1, 1) = 1\nput(1, 5, true) = 1\ncommit(1) = 0\nstate(1) = 4\nlatest() = 2");
        run(set + "note(1, 3) = 1\ncommit(1) = 0\nstate(1) = 4");
        run(set + "note(1, 0) = 1\nnote(1, 2) = 2\nput(1, 5, true) = 1\ncommit(1) = 3\nstate(1) = 3");
        run(set + "note(3, 1) = 1\nput(3, 61, true) = 1\ncommit(3) = 3\nstate(3) = 3");
        run(set + "note(3, 3) = 1\nput(3, 61, true) = 1\ncommit(3) = 0\nstate(3) = 4");
        run(set + "note(1, 1) = 1\nput(2, 5, true) = 1\ncommit(2) = 3\nstate(2) = 3");
        run(set + "note(2, 2) = 1\nput(2, 100, true) = 1\ncommit(2) = 3\nstate(2) = 3");
        says("How many graphs it has noted.");
        run(set + """
                note(1, 2) = 1
                note(1, 2) = 1
                note(1, 0) = 2
                note(2, 3) = 1
                note(1, 3) = 3
                note(1, 0) = 3
                note(1, 1) = 4
                note(1, 3) = 4
                """);
    }

    private static void readAndTold() {
        // 1 sees version 1, in which triples 1 and 2 are there; it has written 1 (not there) and 3 (there).
        String set = """
                begin() = 0
                put(0, 1, true) = 1
                put(0, 2, true) = 1
                commit(0) = 1
                begin() = 1
                begin() = 2
                put(1, 1, false) = 1
                put(1, 3, true) = 1
                """;
        String own = "read(1, 1) = false\nread(1, 3) = true\n";
        String seen = "read(1, 2) = true\nread(1, 4) = false\n";
        String others = "put(2, 2, false) = 1\nput(2, 4, true) = 1\n";
        under("Promise 6: read");
        says("Whether a triple is there for a transaction: as it wrote itself,");
        run(set + own + "put(1, 3, false) = 1\nread(1, 3) = false\nread(2, 1) = true\nread(2, 3) = false");
        says("else in the version that it sees.");
        run(set + others + seen + "commit(2) = 2\n" + seen + "look(2) = 3\nread(3, 2) = false\nread(3, 4) = true");
        says("(Also for one that waits or has failed.)");
        run(set + others + "put(1, 4, true) = 0\n" + own + seen);
        run(set + others + "commit(2) = 2\nput(1, 4, true) = -1\n" + own + seen);
        under("Promise 7: told");
        says("Whether a triple is there in a version,");
        run(set + others + """
                commit(2) = 2
                told(1, 1) = true
                told(1, 2) = true
                told(1, 3) = false
                told(1, 4) = false
                told(2, 1) = true
                told(2, 2) = false
                told(2, 3) = false
                told(2, 4) = true
                """);
        says("one not below the least kept.");
        run(set + others + """
                commit(2) = 2
                told(0, 1) = throws.IllegalArgumentException
                told(1, 1) = true
                abort(1) = 2
                told(1, 1) = throws.IllegalArgumentException
                told(2, 1) = true
                told(3, 1) = throws.IllegalArgumentException
                """);
    }

    // 1 and 3 are writers and 2 is a reader; all see version 1, in which triple 5 is there; version 2 has triple 60.
    private static final String TO_COMMIT = """
            begin() = 0
            put(0, 5, true) = 1
            commit(0) = 1
            begin() = 1
            look(1) = 2
            begin() = 3
            begin() = 4
            put(4, 60, true) = 1
            commit(4) = 2
            """;

    private static void commit() {
        String same = "latest() = 2\nrows() = 2\n";
        under("Promise 8: commit");
        says("A transaction ends:");
        run(TO_COMMIT + "commit(1) = 1\ncommit(2) = 1\nstate(1) = 3\nstate(2) = 3\ncommit(1) = " + Runs.STATE
                + "\nabort(2) = " + Runs.STATE);
        says("a reader,");
        run(TO_COMMIT + "commit(2) = 1\nstate(2) = 3\n" + same);
        says("or a writer whose writes change nothing: the version that it sees.");
        run(TO_COMMIT + "commit(1) = 1\nstate(1) = 3\n" + same);
        run(TO_COMMIT + "put(1, 5, true) = 1\nput(1, 6, false) = 1\ncommit(1) = 1\nstate(1) = 3\n" + same);
        run(TO_COMMIT + "put(1, 6, true) = 1\nput(1, 6, false) = 1\ncommit(1) = 1\nstate(1) = 3\n" + same);
        says("A writer whose writes (those that tell other than the version that it sees) change something:"
                + " their rows are the next version, its number.");
        run(TO_COMMIT + """
                put(1, 5, false) = 1
                put(1, 6, true) = 1
                put(1, 7, false) = 1
                put(3, 8, true) = 1
                commit(1) = 3
                state(1) = 3
                latest() = 3
                rows() = 4
                told(3, 5) = false
                told(3, 6) = true
                told(2, 5) = true
                told(2, 6) = false
                told(3, 60) = true
                commit(3) = 4
                told(4, 8) = true
                told(4, 6) = true
                """);
        run(TO_COMMIT + "put(1, 5, true) = 1\nput(1, 6, true) = 1\ncommit(1) = 3\nrows() = 3\nput(3, 5, false) = 1\n"
                + "put(3, 6, true) = -1");
    }

    private static void commitOfNone() {
        String aborted = "state(1) = 4\nlatest() = 2\nrows() = 2\ntold(2, 6) = false\nput(3, 6, true) = 1\n";
        says("0 when it has failed,");
        run(TO_COMMIT + "put(1, 6, true) = 1\nput(1, 60, true) = -1\ncommit(1) = 0\nconflicts(1, 1) = 0\n" + aborted);
        run(TO_COMMIT + "put(1, 60, true) = -1\ncommit(1) = 0\n" + aborted);
        says("or a graph that it noted has changed:");
        run(TO_COMMIT + "put(1, 6, true) = 1\nnote(1, 1) = 1\ncommit(1) = 0\n" + aborted);
        run(TO_COMMIT + "note(1, 1) = 1\ncommit(1) = 0\n" + aborted);
        run(TO_COMMIT + "put(1, 5, true) = 1\nnote(1, 1) = 1\ncommit(1) = 0\n" + aborted);
        says("it is aborted.");
        run(TO_COMMIT + """
                put(1, 6, true) = 1
                put(3, 6, true) = 0
                note(1, 1) = 1
                commit(1) = 0
                state(1) = 4
                state(3) = 0
                abort(1) = throws.IllegalStateException
                """);
        says("A transaction that waits can't.");
        run(TO_COMMIT + """
                put(1, 6, true) = 1
                put(3, 6, true) = 0
                commit(3) = throws.IllegalStateException
                state(3) = 1
                abort(1) = 1
                commit(3) = 3
                """);
    }

    private static void abort() {
        String set = TO_COMMIT + "put(1, 5, false) = 1\nput(1, 6, true) = 1\nput(1, 7, false) = 1\n";
        String nothing = """
                state(1) = 4
                latest() = 2
                rows() = 2
                told(2, 5) = true
                told(2, 6) = false
                put(3, 6, true) = 1
                commit(1) = throws.IllegalStateException
                """;
        under("Promise 9: abort");
        says("A transaction ends, and leaves nothing");
        run(set + "abort(1) = 3\n" + nothing);
        run(TO_COMMIT + "abort(2) = 0\nstate(2) = 4\nread(2, 5) = throws.IllegalStateException");
        says("(also one that waits");
        run(set + "put(3, 8, true) = 1\nput(1, 8, true) = 0\nabort(1) = 3\nwaits(1) = -1\n" + nothing);
        says("or has failed):");
        run(set + "put(1, 60, true) = -1\nabort(1) = 3\n" + nothing);
        says("how many writes of its own it had.");
        runEach(set, "abort(1) = 3\nabort(2) = 0\nabort(3) = 0");
        run(set + "put(1, 5, true) = 1\nput(3, 9, true) = 1\nput(1, 199, true) = 1\nabort(1) = 4\nabort(3) = 1");
        run("begin() = 0\n" + Runs.each(0, 200, t -> "put(0, " + t + ", true) = 1") + "abort(0) = 200");
    }

    private static void pinAndUnpin() {
        // Version 1 is kept by the reader 2 alone.
        String set = TO_COMMIT + "abort(1) = 0\nabort(3) = 0\n";
        under("Promise 10: pin");
        says("A version, one not below the least kept,");
        run(set + """
                pin(0) = throws.IllegalArgumentException
                pin(1) = 1
                pin(2) = 1
                pin(3) = throws.IllegalArgumentException
                """);
        run(set + "abort(2) = 0\npin(1) = throws.IllegalArgumentException\npin(2) = 1");
        says("is pinned once more:");
        run(set + "pin(1) = 1\npin(1) = 2\nabort(2) = 0\nleast() = 1\nunpin(1) = 1\nleast() = 1\nunpin(1) = 0\n"
                + "least() = 2");
        says("how often.");
        run(set + "pin(1) = 1\npin(2) = 1\npin(1) = 2\npin(1) = 3\npin(2) = 2");
        under("Promise 11: unpin");
        says("It is pinned once less:");
        run(set + "pin(1) = 1\npin(1) = 2\nunpin(1) = 1\npin(1) = 2\nunpin(1) = 1\nunpin(1) = 0\nabort(2) = 0\n"
                + "least() = 2");
        says("how often.");
        run(set + "pin(1) = 1\npin(2) = 1\npin(1) = 2\npin(2) = 2\npin(2) = 3\nunpin(2) = 2\nunpin(1) = 1\n"
                + "unpin(2) = 1\nunpin(1) = 0\nunpin(2) = 0");
        says("(A version that is not pinned is none here.)");
        runEach(set + "pin(1) = 1\nunpin(1) = 0\npin(2) = 1", "unpin(0) = " + Runs.ARGUMENT + "\nunpin(1) = "
                + Runs.ARGUMENT + "\nunpin(2) = 0\n" + Runs.outside("unpin(#)", 3));
    }

    private static void free() {
        // Triple 5: rows 1 (there), 2 (not), 3 (there); triple 6: 1 (there), 2 (not); triple 7: 3 (there).
        String rows = """
                pin(0) = 1
                begin() = 0
                put(0, 5, true) = 1
                put(0, 6, true) = 1
                commit(0) = 1
                begin() = 1
                put(1, 5, false) = 1
                put(1, 6, false) = 1
                commit(1) = 2
                begin() = 2
                put(2, 5, true) = 1
                put(2, 7, true) = 1
                commit(2) = 3
                pin(%1$d) = %2$d
                unpin(0) = %3$d
                least() = %1$d
                """;
        String three = "told(3, 5) = true\ntold(3, 6) = false\ntold(3, 7) = true";
        String two = "told(2, 5) = false\ntold(2, 6) = false\ntold(2, 7) = false\n" + three;
        String one = "told(1, 5) = true\ntold(1, 6) = true\ntold(1, 7) = false\n" + two;
        under("Promise 12: free");
        says("Rows are dropped that no version from the least kept one on needs:");
        run(rows.formatted(0, 2, 1) + "free() = 0\nrows() = 6\ntold(0, 5) = false\n" + one);
        run(rows.formatted(1, 1, 0) + "free() = 0\nrows() = 6\n" + one);
        says("of each triple those below the greatest one not above that version,");
        run(rows.formatted(3, 1, 0) + "free() = 4\nrows() = 2\n" + three);
        run("begin() = 0\n" + Runs.each(0, 200, t -> "put(0, " + t + ", true) = 1") + "commit(0) = 1\nbegin() = 1\n"
                + Runs.each(0, 199, t -> "put(1, " + t + ", false) = 1") + "look(1) = 2\ncommit(1) = 2\nfree() = 0\n"
                + "abort(2) = 0\nrows() = 399\nfree() = 398\nrows() = 1\ntold(2, 199) = true");
        says("and this one, too, if it tells that it is not there.");
        run(rows.formatted(2, 1, 0) + "free() = 4\nrows() = 2\n" + two);
        run(rows.formatted(1, 1, 0) + "free() = 0\nrows() = 6\n" + one);
        run("begin() = 0\nput(0, 5, true) = 1\ncommit(0) = 1\nfree() = 0\nrows() = 1\ntold(1, 5) = true");
        says("How many.");
        run("free() = 0\n" + rows.formatted(3, 1, 0) + "free() = 4\nfree() = 0\nrows() = 2");
    }

    private static void rowsLatestAndLeast() {
        under("Promise 13: rows");
        says("How many rows there are.");
        run("rows() = 0\n" + TO_COMMIT + """
                rows() = 2
                put(1, 5, false) = 1
                put(1, 6, true) = 1
                rows() = 2
                commit(1) = 3
                rows() = 4
                put(3, 9, true) = 1
                abort(3) = 1
                rows() = 4
                abort(2) = 0
                free() = 2
                rows() = 2
                """);
        under("Promise 14: latest");
        says("The latest version.");
        run("latest() = 0\n" + TO_COMMIT + """
                latest() = 2
                put(1, 6, true) = 1
                put(1, 7, true) = 1
                latest() = 2
                commit(1) = 3
                latest() = 3
                commit(3) = 1
                abort(2) = 0
                latest() = 3
                free() = 0
                latest() = 3
                """);
        under("Promise 15: least");
        says("The least version that is kept.");
        run("least() = 0\n" + TO_COMMIT + """
                least() = 1
                abort(1) = 0
                least() = 1
                abort(2) = 0
                least() = 1
                pin(1) = 1
                abort(3) = 0
                least() = 1
                look(1) = 5
                unpin(1) = 0
                least() = 1
                pin(2) = 1
                commit(5) = 1
                least() = 2
                unpin(2) = 0
                least() = 2
                """);
    }

    private static void stateAndWaits() {
        under("Promise 16: state");
        says("Of a transaction: 0 open,");
        runEach(IN_EVERY_STATE, "state(0) = 0\nstate(5) = 0");
        says("1 waits,");
        runEach(IN_EVERY_STATE, "state(1) = 1");
        says("2 has failed,");
        runEach(IN_EVERY_STATE, "state(2) = 2");
        says("3 committed,");
        runEach(IN_EVERY_STATE, "state(3) = 3\nstate(6) = 3");
        says("4 aborted.");
        runEach(IN_EVERY_STATE, "state(4) = 4\nstate(7) = 4");
        run(IN_EVERY_STATE + "commit(2) = 0\nstate(2) = 4\nabort(1) = 0\nstate(1) = 4");
        run(IN_EVERY_STATE + "begin() = 8\nput(8, 11, true) = 1\nput(0, 11, true) = 0\nput(8, 10, true) = -2\n"
                + "state(8) = 4\nstate(0) = 0");
        under("Promise 17: waits");
        says("For which it waits;");
        run(IN_EVERY_STATE + "begin() = 8\nput(8, 12, true) = 1\nput(0, 12, true) = 0\nwaits(1) = 0\nwaits(0) = 8");
        run(IN_EVERY_STATE + "begin() = 8\nput(8, 10, true) = 0\nwaits(8) = 0\nabort(0) = 1\nwaits(8) = 1");
        says("-1 when it does not.");
        runEach(IN_EVERY_STATE, "waits(0) = -1\n" + Runs.each(2, 8, n -> "waits(" + n + ") = -1"));
        runEach(IN_EVERY_STATE + "abort(0) = 1", "waits(1) = -1");
        runEach(IN_EVERY_STATE + "commit(0) = 2", "waits(1) = -1");
        runEach(IN_EVERY_STATE + "abort(1) = 0", "waits(1) = -1");
    }

    private static void ring() {
        String own = Runs.each(0, 6, n -> "begin() = " + n) + Runs.each(0, 6, n -> "put(" + n + ", 1" + n
                + ", true) = 1");
        // 5, 3 and 1 in the order in which they wait, then 4 and 0.
        String first = own + "put(5, 13, true) = 0\nput(3, 11, true) = 0\nput(1, 15, true) = 1\n";
        String second = first + "put(4, 10, true) = 0\nput(0, 14, true) = 1\n";
        under("Promise 18: ring");
        says("Member i (from 0, by their numbers)");
        runEach(first, "ring(0) = 1\nring(1) = 3\nring(2) = 5");
        says("of the latest ring;");
        runEach(second, "ring(0) = 0\nring(1) = 4");
        run(second + "abort(0) = 2\ncommit(1) = 1\nabort(2) = 1\nring(0) = 0\nring(1) = 4\nring(2) = -1");
        says("-1 when there is none such.");
        String none = "ring(-1) = -1\nring(59) = -1\nring(60) = -1\nring(2147483647) = -1\nring(-2147483648) = -1\n";
        runEach("begin() = 0", "ring(0) = -1\nring(1) = -1\n" + none);
        runEach(own + "put(1, 10, true) = 0", "ring(0) = -1\nring(1) = -1\n" + none);
        runEach(first, "ring(3) = -1\nring(4) = -1\n" + none);
        runEach(second, "ring(2) = -1\nring(3) = -1\n" + none);
    }

    private static void conflicts() {
        // Version 1 has rows of graphs 0, 1 and 3; all of 1 .. 8 see version 0.
        String set = Runs.each(0, 9, n -> "begin() = " + n) + """
                put(0, 5, true) = 1
                put(0, 60, true) = 1
                put(0, 199, true) = 1
                put(1, 5, true) = 0
                commit(0) = 1
                put(2, 60, true) = -1
                put(3, 60, false) = -1
                """;
        under("Promise 19: conflicts");
        says("How many writers failed by a triple (kind = 0),");
        runEach(set, """
                conflicts(0, 5) = 1
                conflicts(0, 60) = 2
                conflicts(0, 199) = 0
                conflicts(0, 0) = 0
                conflicts(0, 61) = 0
                """ + Runs.outside("conflicts(0, #)", 200) + Runs.outside("conflicts(#, 0)", 2));
        says("or were refused at commit for a graph (1;");
        String refused = set + """
                note(4, 3) = 1
                note(5, 3) = 1
                note(6, 1) = 1
                note(7, 2) = 1
                commit(4) = 0
                commit(5) = 0
                commit(6) = 0
                commit(7) = 0
                state(7) = 3
                """;
        runEach(refused, """
                conflicts(1, 0) = 0
                conflicts(1, 1) = 1
                conflicts(1, 2) = 0
                conflicts(1, 3) = 2
                conflicts(0, 60) = 2
                """ + Runs.outside("conflicts(1, #)", 4));
        run(set + "commit(2) = 0\nabort(3) = 0\nnote(8, 1) = 1\nabort(8) = 0\nconflicts(1, 0) = 0\n"
                + "conflicts(1, 1) = 0");
        says("for the least one that had changed)");
        run(set + "note(4, 3) = 1\nnote(4, 2) = 2\nnote(4, 1) = 3\ncommit(4) = 0\nconflicts(1, 0) = 0\n"
                + "conflicts(1, 1) = 1\nconflicts(1, 2) = 0\nconflicts(1, 3) = 0");
        run(set + "note(4, 2) = 1\nnote(4, 3) = 2\ncommit(4) = 0\nconflicts(1, 2) = 0\nconflicts(1, 3) = 1");
        says("so far.");
        run(set + "conflicts(0, 60) = 2\nput(4, 60, true) = -1\nconflicts(0, 60) = 3\nabort(2) = 0\ncommit(3) = 0\n"
                + "conflicts(0, 60) = 3");
        run(set + "conflicts(1, 3) = 0\nnote(4, 3) = 1\nconflicts(1, 3) = 0\ncommit(4) = 0\nconflicts(1, 3) = 1\n"
                + "note(5, 3) = 1\ncommit(5) = 0\nconflicts(1, 3) = 2\nfree() = 0\nconflicts(1, 3) = 2");
    }

    /** What is free here, no run can show; that later calls end in an answer is in TermsTest all the same. */
    private static void notPromised() {
        under("Not promised");
        says("How the state is held inside the object is free, as are the speed of each call, the text of toString and"
                + " the behaviour of equals and hashCode.");
        says("Use of one object from several threads at once is not promised to be safe.");
        says("Nothing is promised beyond the answers and state changes described above, and nothing about an object"
                + " after its 512th call.");
    }
}
