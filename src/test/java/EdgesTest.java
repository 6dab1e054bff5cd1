/** The sentences of the promises that name a boundary case, with tests of their own for each. */
public final class EdgesTest {
    private static final int MOST = 60;

    /** Versions 0 .. 4 of which 2 is the least kept one, by a pin; 1 and 3 are kept by nobody. */
    private static final String FROM_TWO_TO_FOUR = """
            pin(0) = 1
            begin() = 0
            put(0, 1, true) = 1
            commit(0) = 1
            begin() = 1
            put(1, 2, true) = 1
            commit(1) = 2
            pin(2) = 1
            begin() = 2
            put(2, 1, false) = 1
            commit(2) = 3
            begin() = 3
            put(3, 3, true) = 1
            commit(3) = 4
            unpin(0) = 0
            """;

    private EdgesTest() {
    }

    public static void main(String[] args) {
        newObject();
        begin();
        versionsFromTheLeastKeptOn();
        answersOfPut();
        putOfWhatIsThereAlready();
        noteCounts();
        noVersionAboveMayHaveARow();
        notedLateOrChangedBack();
        readOfEachState();
        commitThatChangesNothing();
        commitThatChangesSomething();
        commitThatIsRefused();
        abortLeavesNothing();
        abortCounts();
        pin();
        unpin();
        freeForEachLeast();
        freeOfNoneAndOfMany();
        rows();
        latestAndLeast();
        states();
        waits();
        ring();
        conflictsByKind();
        conflictsForTheLeastGraph();
        conflictsOfMany();
        Runs.end();
    }

    private static void newObject() {
        Runs.checkEach("promise 1: version 0 alone, no transactions", "latest() = 0", """
                latest() = 0
                least() = 0
                rows() = 0
                free() = 0
                begin() = 0
                look(0) = 0
                pin(0) = 1
                told(0, 0) = false
                told(0, 199) = false
                ring(0) = -1
                conflicts(0, 0) = 0
                conflicts(1, 3) = 0
                """ + Runs.outside("look(#)", 1) + Runs.outside("told(#, 0)", 1) + Runs.outside("pin(#)", 1)
                + Runs.outside("unpin(#)", 0) + Runs.outside("put(#, 0, true)", 0) + Runs.outside("note(#, 0)", 0)
                + Runs.outside("read(#, 0)", 0) + Runs.outside("commit(#)", 0) + Runs.outside("abort(#)", 0)
                + Runs.outside("state(#)", 0) + Runs.outside("waits(#)", 0));
    }

    private static void begin() {
        Runs.check("promise 2: a writer sees the latest version, be there readers or pins of older ones", """
                look(0) = 0
                pin(0) = 1
                begin() = 1
                put(1, 7, true) = 1
                begin() = 2
                commit(1) = 1
                begin() = 3
                read(2, 7) = false
                read(3, 7) = true
                commit(2) = 0
                commit(3) = 1
                """);
        StringBuilder writers = new StringBuilder("look(0) = 0\n");
        for (int n = 1; n < MOST; n++) {
            writers.append("begin() = %d\nput(%d, 0, %b) = 1\nread(%d, 1) = false\ncommit(%d) = %d\n".formatted(n, n,
                    n % 2 == 1, n, n, n));
        }
        Runs.check("promise 2: as many writers as there can be", writers + "latest() = 59\nbegin() = " + Runs.STATE);
    }

    private static void versionsFromTheLeastKeptOn() {
        Runs.check("the least is 2, the latest is 4", FROM_TWO_TO_FOUR + "least() = 2\nlatest() = 4");
        Runs.checkEach("promise 3: a version not below the least that is kept", FROM_TWO_TO_FOUR, """
                look(1) = throws.IllegalArgumentException
                look(0) = throws.IllegalArgumentException
                look(2) = 4
                look(3) = 4
                look(4) = 4
                """ + Runs.outside("look(#)", 5));
        Runs.checkEach("promise 7: a version not below the least kept", FROM_TWO_TO_FOUR, """
                told(1, 1) = throws.IllegalArgumentException
                told(0, 1) = throws.IllegalArgumentException
                told(2, 1) = true
                told(3, 1) = false
                told(4, 1) = false
                told(2, 3) = false
                told(3, 3) = false
                told(4, 3) = true
                """ + Runs.outside("told(#, 1)", 5) + Runs.outside("told(2, #)", 200) + Runs.outside("told(1, #)", 200));
        Runs.checkEach("promise 10: a version not below the least kept", FROM_TWO_TO_FOUR, """
                pin(1) = throws.IllegalArgumentException
                pin(0) = throws.IllegalArgumentException
                pin(2) = 2
                pin(3) = 1
                pin(4) = 1
                """ + Runs.outside("pin(#)", 5));
        Runs.check("promise 3: what a reader sees is what it named", FROM_TWO_TO_FOUR + """
                look(2) = 4
                look(3) = 5
                look(4) = 6
                read(4, 1) = true
                read(5, 1) = false
                read(5, 3) = false
                read(6, 3) = true
                unpin(2) = 0
                least() = 2
                commit(4) = 2
                least() = 3
                look(2) = throws.IllegalArgumentException
                look(3) = 7
                commit(5) = 3
                commit(7) = 3
                least() = 4
                told(3, 1) = throws.IllegalArgumentException
                told(4, 1) = false
                """);
        Runs.checkEach("promises 3, 7, 10: the latest is the least, too", FROM_TWO_TO_FOUR + "unpin(2) = 0", """
                look(3) = throws.IllegalArgumentException
                told(3, 3) = throws.IllegalArgumentException
                pin(3) = throws.IllegalArgumentException
                look(4) = 4
                told(4, 3) = true
                pin(4) = 1
                look(5) = throws.IllegalArgumentException
                told(5, 3) = throws.IllegalArgumentException
                pin(5) = throws.IllegalArgumentException
                """);
        Runs.checkEach("promise 7: free does not matter to what can be told", FROM_TWO_TO_FOUR + "free() = 0", """
                told(1, 1) = throws.IllegalArgumentException
                told(2, 1) = true
                """);
    }

    private static void answersOfPut() {
        // 0 has made version 1 with triple 9, 1 holds 11 and waits for 2, 2 holds 12, 3 holds 13.
        String set = """
                begin() = 0
                begin() = 1
                begin() = 2
                begin() = 3
                put(0, 9, true) = 1
                commit(0) = 1
                put(1, 11, true) = 1
                put(2, 12, true) = 1
                put(3, 13, true) = 1
                put(1, 12, true) = 0
                """;
        Runs.check("promise 4: 1 when it is done", set + "put(2, 14, true) = 1\nstate(2) = 0\nread(2, 14) = true");
        Runs.check("promise 4: 0 when it waits", set + "put(3, 12, true) = 0\nstate(3) = 1\nwaits(3) = 2");
        Runs.check("promise 4: -1 when it has failed", set + "put(3, 9, true) = -1\nstate(3) = 2\nwaits(3) = -1");
        Runs.check("promise 4: -2 when it was aborted by a ring", set + """
                put(2, 11, true) = -2
                state(2) = 4
                waits(2) = -1
                state(1) = 0
                read(1, 12) = true
                """);
        Runs.check("promise 4: as it is when all is done: a ring that it closes gives it the triple", set + """
                put(3, 11, true) = 0
                put(2, 13, true) = 1
                state(3) = 4
                state(2) = 0
                read(2, 13) = true
                waits(1) = 2
                """);
        Runs.check("promise 4: as it is when all is done: it goes on waiting when the ring is broken elsewhere", """
                begin() = 0
                begin() = 1
                begin() = 2
                put(0, 10, true) = 1
                put(1, 11, true) = 1
                put(2, 12, true) = 1
                put(1, 12, true) = 0
                put(2, 10, true) = 0
                put(0, 11, true) = 0
                state(0) = 1
                waits(0) = 1
                state(1) = 0
                state(2) = 4
                """);
    }

    private static void putOfWhatIsThereAlready() {
        // Triple 5 is there and triple 6 is not, for all of 1, 2 and 3.
        String set = """
                begin() = 0
                put(0, 5, true) = 1
                commit(0) = 1
                begin() = 1
                begin() = 2
                begin() = 3
                """;
        Runs.check("promise 4: also when the triple is there already, or not: it is done and held", set + """
                put(1, 5, true) = 1
                put(1, 6, false) = 1
                read(1, 5) = true
                read(1, 6) = false
                put(2, 5, true) = 0
                put(3, 6, false) = 0
                waits(2) = 1
                waits(3) = 1
                abort(1) = 2
                state(2) = 0
                state(3) = 0
                abort(2) = 1
                abort(3) = 1
                """);
        Runs.check("promise 4: also when the triple is there already, or not: it fails", set + """
                put(1, 5, false) = 1
                put(1, 6, true) = 1
                commit(1) = 2
                put(2, 5, true) = -1
                put(3, 6, false) = -1
                """);
        Runs.check("promise 4: also when the triple is there already, or not: it is aborted by a ring", set + """
                put(1, 5, true) = 1
                put(2, 6, false) = 1
                put(1, 6, false) = 0
                put(2, 5, true) = -2
                state(1) = 0
                commit(1) = 1
                rows() = 1
                """);
    }

    private static void noteCounts() {
        for (int first = 0; first < 4; first++) {
            StringBuilder lines = new StringBuilder("begin() = 0\nbegin() = 1\n");
            for (int i = 0; i < 4; i++) {
                int graph = (first + 3 * i) % 4;
                lines.append("note(0, %d) = %d\nnote(0, %d) = %d\n".formatted(graph, i + 1, graph, i + 1));
            }
            Runs.check("promise 5: how many graphs it has noted, each once, from graph " + first, lines + """
                    note(0, 0) = 4
                    note(0, 3) = 4
                    note(1, 3) = 1
                    """ + Runs.outside("note(0, #)", 4) + "note(0, 1) = 4");
        }
    }

    private static void noVersionAboveMayHaveARow() {
        // Graph 1 has rows in version 2 alone; 1, 3 and 5 see versions 1, 2 and 3.
        String set = """
                begin() = 0
                put(0, 0, true) = 1
                commit(0) = 1
                begin() = 1
                begin() = 2
                put(2, 50, true) = 1
                put(2, 99, true) = 1
                commit(2) = 2
                begin() = 3
                begin() = 4
                put(4, 150, true) = 1
                commit(4) = 3
                begin() = 5
                """;
        String[][] dues = {{"1", "3"}, {"0", "4"}, {"1", "3"}, {"0", "4"}};
        for (int graph = 0; graph < 4; graph++) {
            Runs.check("promise 5: no version above 1 may have a row of graph " + graph, set + """
                    note(1, %d) = 1
                    commit(1) = %s
                    state(1) = %s
                    """.formatted(graph, dues[graph][0], dues[graph][1]));
        }
        Runs.check("promise 5: a row in the very version that it sees is no matter", set + """
                note(3, 1) = 1
                note(3, 0) = 2
                note(3, 2) = 3
                put(3, 51, true) = 1
                commit(3) = 4
                """);
        Runs.check("promise 5: a row in the next version is", set + """
                note(3, 3) = 1
                put(3, 51, true) = 1
                commit(3) = 0
                state(3) = 4
                latest() = 3
                """);
        Runs.check("promise 5: rows below are no matter, be all graphs noted", set + """
                note(5, 0) = 1
                note(5, 1) = 2
                note(5, 2) = 3
                note(5, 3) = 4
                put(5, 0, false) = 1
                put(5, 50, false) = 1
                put(5, 150, false) = 1
                commit(5) = 4
                """);
    }

    private static void notedLateOrChangedBack() {
        Runs.check("promise 5: noted when the graph has changed already", """
                begin() = 0
                begin() = 1
                put(1, 60, true) = 1
                commit(1) = 1
                note(0, 1) = 1
                commit(0) = 0
                state(0) = 4
                conflicts(1, 1) = 1
                """);
        Runs.check("promise 5: changed back, and freed what can be freed, is changed", """
                begin() = 0
                note(0, 1) = 1
                begin() = 1
                put(1, 60, true) = 1
                commit(1) = 1
                begin() = 2
                put(2, 60, false) = 1
                commit(2) = 2
                free() = 0
                rows() = 2
                commit(0) = 0
                state(0) = 4
                free() = 2
                """);
        Runs.check("promise 5: writes that are not committed, or change nothing, or are its own, are no matter", """
                begin() = 0
                note(0, 0) = 1
                put(0, 3, true) = 1
                begin() = 1
                begin() = 2
                begin() = 3
                put(1, 4, true) = 1
                put(2, 5, true) = 1
                abort(2) = 1
                put(3, 6, false) = 1
                commit(3) = 0
                commit(0) = 1
                state(0) = 3
                """);
        Runs.check("promise 5: each writer has notes of its own", """
                begin() = 0
                begin() = 1
                begin() = 2
                note(0, 0) = 1
                note(1, 1) = 1
                put(2, 0, true) = 1
                commit(2) = 1
                commit(1) = 0
                state(1) = 3
                commit(0) = 0
                state(0) = 4
                """);
    }

    private static void readOfEachState() {
        // In version 1 triples 1 and 2 are there; 1 has written against that, and 3, and not 2.
        String set = """
                begin() = 0
                put(0, 1, true) = 1
                put(0, 2, true) = 1
                commit(0) = 1
                begin() = 1
                begin() = 2
                put(1, 1, false) = 1
                put(1, 3, true) = 1
                """;
        String reads = """
                read(1, 1) = false
                read(1, 2) = true
                read(1, 3) = true
                read(1, 4) = false
                read(1, 0) = false
                read(1, 199) = false
                """ + Runs.outside("read(1, #)", 200);
        Runs.check("promise 6: as it wrote itself, else in the version that it sees", set + reads);
        Runs.check("promise 6: also for one that waits, whose write is none of its own yet", set + """
                put(2, 2, false) = 1
                put(2, 4, true) = 1
                put(1, 2, false) = 0
                """ + reads);
        Runs.check("promise 6: also for one that has failed", set + """
                put(2, 4, true) = 1
                commit(2) = 2
                put(1, 4, true) = -1
                """ + reads);
        Runs.check("promise 6: not in a later version, and not by others", set + """
                put(2, 2, false) = 1
                put(2, 4, true) = 1
                commit(2) = 2
                """ + reads + """
                look(1) = 3
                read(3, 1) = true
                read(3, 2) = true
                read(3, 3) = false
                read(3, 4) = false
                """);
        Runs.checkEach("promise 6: not for one that has ended", set + "commit(2) = 1\nabort(1) = 2\nlook(1) = 3\n"
                + "commit(3) = 1", Runs.each(0, 4, n -> "read(" + n + ", 1) = " + Runs.STATE)
                + Runs.each(0, 4, n -> "read(" + n + ", 200) = " + Runs.ARGUMENT));
    }

    private static void commitThatChangesNothing() {
        // Versions 1 and 2; 1 is a writer and 2 a reader that see version 1; triple 5 is there in both.
        String set = """
                begin() = 0
                put(0, 5, true) = 1
                commit(0) = 1
                begin() = 1
                look(1) = 2
                begin() = 3
                put(3, 6, true) = 1
                commit(3) = 2
                """;
        String nothing = """
                latest() = 2
                rows() = 2
                """;
        Runs.check("promise 8: a reader: the version that it sees", set + "commit(2) = 1\nstate(2) = 3\n" + nothing);
        Runs.check("promise 8: a writer without writes: the version that it sees", set
                + "commit(1) = 1\nstate(1) = 3\n" + nothing);
        Runs.check("promise 8: a writer whose writes change nothing: the version that it sees", set + """
                put(1, 5, true) = 1
                put(1, 7, false) = 1
                put(1, 8, true) = 1
                put(1, 8, false) = 1
                commit(1) = 1
                state(1) = 3
                """ + nothing);
        Runs.check("promise 8: version 0 is one that is seen, too", """
                begin() = 0
                look(0) = 1
                commit(0) = 0
                commit(1) = 0
                state(0) = 3
                state(1) = 3
                """);
    }

    private static void commitThatChangesSomething() {
        Runs.check("promise 8: those that tell other than the version that it sees are the rows", """
                begin() = 0
                put(0, 0, true) = 1
                put(0, 50, true) = 1
                commit(0) = 1
                begin() = 1
                put(1, 0, true) = 1
                put(1, 50, false) = 1
                put(1, 100, true) = 1
                put(1, 199, false) = 1
                begin() = 2
                put(2, 7, true) = 1
                commit(2) = 2
                rows() = 3
                commit(1) = 3
                state(1) = 3
                rows() = 5
                latest() = 3
                told(3, 0) = true
                told(3, 50) = false
                told(3, 100) = true
                told(3, 199) = false
                told(3, 7) = true
                begin() = 3
                put(3, 0, false) = 1
                put(3, 199, true) = 1
                commit(3) = 4
                """);
        Runs.check("promise 8: what changes nothing has no row, so that others don't fail by it", """
                begin() = 0
                begin() = 1
                put(0, 3, false) = 1
                put(0, 4, true) = 1
                commit(0) = 1
                put(1, 3, true) = 1
                put(1, 4, true) = -1
                """);
        Runs.check("promise 8: all of them at once", "begin() = 0\n"
                + Runs.each(0, 200, t -> "put(0, " + t + ", true) = 1") + "commit(0) = 1\nrows() = 200\n"
                + Runs.each(0, 200, t -> "told(1, " + t + ") = true"));
    }

    private static void commitThatIsRefused() {
        String set = """
                begin() = 0
                begin() = 1
                begin() = 2
                begin() = 3
                put(0, 60, true) = 1
                commit(0) = 1
                put(1, 5, true) = 1
                """;
        String aborted = """
                commit(1) = 0
                state(1) = 4
                latest() = 1
                rows() = 1
                told(1, 5) = false
                put(2, 5, true) = 1
                commit(1) = throws.IllegalStateException
                abort(1) = throws.IllegalStateException
                """;
        Runs.check("promise 8: 0 when it has failed: it is aborted", set + "put(1, 60, true) = -1\n" + aborted
                + "conflicts(0, 60) = 1\nconflicts(1, 1) = 0");
        Runs.check("promise 8: 0 when a graph that it noted has changed: it is aborted", set + "note(1, 1) = 1\n"
                + aborted + "conflicts(1, 1) = 1\nconflicts(0, 60) = 0");
        Runs.check("promise 8: 0 when both: counted as failed alone", set + "note(1, 1) = 1\nput(1, 60, true) = -1\n"
                + aborted + "conflicts(1, 1) = 0\nconflicts(0, 60) = 1");
        Runs.check("promise 8: 0 when a graph that it noted has changed, though it writes nothing", set + """
                note(2, 1) = 1
                commit(2) = 0
                state(2) = 4
                note(3, 1) = 1
                put(3, 70, false) = 1
                commit(3) = 0
                state(3) = 4
                conflicts(1, 1) = 2
                """);
        Runs.check("promise 8: a transaction that waits can't", set + """
                put(2, 5, true) = 0
                commit(2) = throws.IllegalStateException
                note(3, 1) = 1
                put(3, 5, true) = 0
                commit(3) = throws.IllegalStateException
                state(2) = 1
                state(3) = 1
                conflicts(1, 1) = 0
                abort(1) = 1
                state(2) = 0
                waits(3) = 2
                commit(2) = 2
                state(3) = 2
                commit(3) = 0
                """);
    }

    private static void abortLeavesNothing() {
        String set = """
                begin() = 0
                put(0, 1, true) = 1
                commit(0) = 1
                begin() = 1
                begin() = 2
                put(1, 1, false) = 1
                put(1, 2, true) = 1
                note(1, 0) = 1
                """;
        String nothing = """
                state(1) = 4
                waits(1) = -1
                latest() = %d
                told(%d, 1) = true
                told(%d, 2) = false
                put(2, 1, false) = 1
                put(2, 2, true) = 1
                abort(1) = throws.IllegalStateException
                commit(1) = throws.IllegalStateException
                """;
        Runs.check("promise 9: an open one leaves nothing", set + "abort(1) = 2\n" + nothing.formatted(1, 1, 1));
        Runs.check("promise 9: also one that waits", set + "put(2, 3, true) = 1\nput(1, 3, true) = 0\nabort(1) = 2\n"
                + nothing.formatted(1, 1, 1) + "abort(2) = 3");
        Runs.check("promise 9: also one that has failed", set + """
                begin() = 3
                put(3, 3, true) = 1
                commit(3) = 2
                put(1, 3, true) = -1
                abort(1) = 2
                """ + nothing.formatted(2, 2, 2));
        Runs.check("promise 9: a reader has no writes", "look(0) = 0\nabort(0) = 0\nstate(0) = 4\nabort(0) = "
                + Runs.STATE);
        Runs.check("promise 9: a graph that it noted is no matter, and nothing is counted", set + """
                put(2, 3, true) = 1
                commit(2) = 2
                abort(1) = 2
                conflicts(1, 0) = 0
                """);
    }

    private static void abortCounts() {
        for (int count : new int[] {0, 1, 2, 199, 200}) {
            Runs.check("promise 9: how many writes of its own, " + count, "begin() = 0\n"
                    + Runs.each(0, count, t -> "put(0, " + t + ", " + (t % 2 == 0) + ") = 1") + "abort(0) = " + count);
        }
    }

    private static void pin() {
        Runs.check("promise 10: once more, how often, each version by itself", FROM_TWO_TO_FOUR + """
                pin(4) = 1
                pin(2) = 2
                pin(4) = 2
                pin(3) = 1
                pin(2) = 3
                unpin(2) = 2
                unpin(2) = 1
                least() = 2
                unpin(2) = 0
                least() = 3
                pin(2) = throws.IllegalArgumentException
                unpin(3) = 0
                least() = 4
                pin(3) = throws.IllegalArgumentException
                pin(4) = 3
                """);
    }

    private static void unpin() {
        Runs.checkEach("promise 11: a version that is not pinned is none here", FROM_TWO_TO_FOUR, """
                unpin(2) = 0
                unpin(1) = throws.IllegalArgumentException
                unpin(0) = throws.IllegalArgumentException
                unpin(3) = throws.IllegalArgumentException
                unpin(4) = throws.IllegalArgumentException
                """ + Runs.outside("unpin(#)", 5) + Runs.outside("unpin(#)", MOST) + Runs.outside("unpin(#)", MOST + 1));
        Runs.check("promise 11: it is pinned once less, and none more often than it was pinned", FROM_TWO_TO_FOUR + """
                pin(2) = 2
                unpin(2) = 1
                unpin(2) = 0
                unpin(2) = throws.IllegalArgumentException
                pin(4) = 1
                unpin(4) = 0
                unpin(4) = throws.IllegalArgumentException
                """);
        Runs.check("promise 11: one that is seen but not pinned is none here, either", """
                look(0) = 0
                begin() = 1
                unpin(0) = throws.IllegalArgumentException
                pin(0) = 1
                unpin(0) = 0
                unpin(0) = throws.IllegalArgumentException
                """);
    }

    private static void freeForEachLeast() {
        // Rows: triple 5 in 1 (there), 3 (not), 5 (there); 9 in 2 (there), 4 (not), 6 (there); 7 in 1 (there), 2 (not).
        String set = """
                pin(0) = 1
                begin() = 0
                put(0, 5, true) = 1
                put(0, 7, true) = 1
                commit(0) = 1
                begin() = 1
                put(1, 9, true) = 1
                put(1, 7, false) = 1
                commit(1) = 2
                begin() = 2
                put(2, 5, false) = 1
                commit(2) = 3
                begin() = 3
                put(3, 9, false) = 1
                commit(3) = 4
                begin() = 4
                put(4, 5, true) = 1
                commit(4) = 5
                begin() = 5
                put(5, 9, true) = 1
                commit(5) = 6
                rows() = 8
                """;
        int[] freed = {0, 0, 2, 4, 6, 6, 6};
        boolean[] fives = {false, true, true, false, false, true, true};
        boolean[] nines = {false, false, true, true, false, false, true};
        for (int least = 0; least <= 6; least++) {
            int from = least;
            Runs.check("promise 12: rows that no version from the least kept one on needs, " + least, set + """
                    pin(%d) = %d
                    unpin(0) = %d
                    least() = %d
                    free() = %d
                    rows() = %d
                    free() = 0
                    """.formatted(from, from == 0 ? 2 : 1, from == 0 ? 1 : 0, from, freed[from], 8 - freed[from])
                    + Runs.each(from, 7, v -> "told(" + v + ", 5) = " + fives[v] + "\ntold(" + v + ", 9) = " + nines[v]
                    + "\ntold(" + v + ", 7) = " + (v == 1)));
        }
    }

    private static void freeOfNoneAndOfMany() {
        Runs.check("promise 12: a row that tells that it is there stays, as long as no other one takes its place", """
                free() = 0
                begin() = 0
                put(0, 0, true) = 1
                commit(0) = 1
                free() = 0
                rows() = 1
                begin() = 1
                put(1, 1, true) = 1
                commit(1) = 2
                free() = 0
                rows() = 2
                begin() = 2
                put(2, 0, false) = 1
                free() = 0
                commit(2) = 3
                free() = 2
                rows() = 1
                told(3, 0) = false
                told(3, 1) = true
                """);
        String all = "begin() = 0\n" + Runs.each(0, 200, t -> "put(0, " + t + ", true) = 1") + "commit(0) = 1\n"
                + "free() = 0\nrows() = 200\nbegin() = 1\n" + Runs.each(0, 200, t -> "put(1, " + t + ", false) = 1")
                + "look(1) = 2\ncommit(1) = 2\nfree() = 0\nrows() = 400\n";
        Runs.check("promise 12: all rows of all triples", all + """
                commit(2) = 1
                free() = 400
                rows() = 0
                latest() = 2
                told(2, 0) = false
                told(2, 199) = false
                begin() = 3
                put(3, 0, false) = 1
                put(3, 199, true) = 1
                commit(3) = 3
                rows() = 1
                """);
        Runs.check("promise 12: a freed row that told that it was not there fails nobody", """
                begin() = 0
                put(0, 0, true) = 1
                commit(0) = 1
                begin() = 1
                put(1, 0, false) = 1
                commit(1) = 2
                begin() = 2
                free() = 2
                note(2, 0) = 1
                put(2, 0, true) = 1
                commit(2) = 3
                """);
    }

    private static void rows() {
        Runs.check("promise 13: how many rows: none, some, all of a version, fewer", "rows() = 0\nbegin() = 0\n"
                + Runs.each(0, 200, t -> "put(0, " + t + ", true) = 1") + """
                rows() = 0
                commit(0) = 1
                rows() = 200
                begin() = 1
                put(1, 0, false) = 1
                rows() = 200
                look(1) = 2
                commit(1) = 2
                rows() = 201
                abort(2) = 0
                rows() = 201
                free() = 2
                rows() = 199
                begin() = 3
                put(3, 5, true) = 1
                commit(3) = 2
                rows() = 199
                """);
    }

    private static void latestAndLeast() {
        StringBuilder lines = new StringBuilder("pin(0) = 1\nlatest() = 0\nleast() = 0\n");
        for (int n = 0; n < MOST; n++) {
            lines.append("begin() = %d\nput(%d, 0, %b) = 1\nlatest() = %d\ncommit(%d) = %d\nlatest() = %d\n".formatted(
                    n, n, n % 2 == 0, n, n, n + 1, n + 1));
        }
        Runs.check("promises 14 and 15: the latest goes from 0 to 60, the least stays with a pin", lines + """
                least() = 0
                pin(30) = 1
                pin(60) = 1
                unpin(0) = 0
                least() = 30
                unpin(30) = 0
                least() = 60
                unpin(60) = 0
                least() = 60
                latest() = 60
                """);
        Runs.check("promise 15: the least of several: a pin, a reader, a writer, each of them the least in turn", """
                begin() = 0
                put(0, 0, true) = 1
                commit(0) = 1
                pin(1) = 1
                begin() = 1
                put(1, 1, true) = 1
                commit(1) = 2
                look(2) = 2
                begin() = 3
                put(3, 2, true) = 1
                commit(3) = 3
                begin() = 4
                begin() = 5
                put(5, 3, true) = 1
                commit(5) = 4
                least() = 1
                unpin(1) = 0
                least() = 2
                commit(2) = 2
                least() = 3
                abort(4) = 0
                least() = 4
                """);
    }

    private static void states() {
        Runs.check("promise 16: 0 open, 1 waits, 2 has failed, 3 committed, 4 aborted: one after the other", """
                begin() = 0
                begin() = 1
                begin() = 2
                state(1) = 0
                put(0, 10, false) = 1
                put(2, 11, true) = 1
                put(1, 10, true) = 0
                state(1) = 1
                commit(0) = 0
                state(0) = 3
                state(1) = 0
                put(1, 11, true) = 0
                state(1) = 1
                commit(2) = 1
                state(2) = 3
                state(1) = 2
                commit(1) = 0
                state(1) = 4
                begin() = 3
                commit(3) = 1
                state(3) = 3
                look(1) = 4
                state(4) = 0
                commit(4) = 1
                state(4) = 3
                look(1) = 5
                abort(5) = 0
                state(5) = 4
                """ + Runs.outside("state(#)", 6));
    }

    private static void waits() {
        Runs.check("promise 17: for which it waits; -1 when it does not, in any state", """
                begin() = 0
                begin() = 1
                begin() = 2
                look(0) = 3
                waits(0) = -1
                waits(1) = -1
                waits(3) = -1
                put(0, 10, true) = 1
                put(1, 10, true) = 0
                waits(1) = 0
                waits(0) = -1
                put(2, 10, true) = 0
                waits(2) = 0
                abort(0) = 1
                waits(0) = -1
                waits(1) = -1
                waits(2) = 1
                commit(1) = 1
                waits(1) = -1
                waits(2) = -1
                state(2) = 2
                commit(2) = 0
                waits(2) = -1
                commit(3) = 0
                waits(3) = -1
                """ + Runs.outside("waits(#)", 4));
        Runs.check("promise 17: the greatest number waits, and is waited for", Runs.each(0, MOST, n -> "begin() = " + n)
                + """
                put(0, 10, true) = 1
                put(59, 11, true) = 1
                put(58, 11, true) = 0
                put(59, 10, true) = 0
                waits(59) = 0
                waits(58) = 59
                """);
    }

    private static void ring() {
        String none = """
                ring(0) = -1
                ring(1) = -1
                ring(-1) = -1
                ring(59) = -1
                ring(60) = -1
                ring(2147483647) = -1
                ring(-2147483648) = -1
                """;
        String two = """
                ring(0) = 1
                ring(1) = 3
                ring(2) = -1
                ring(3) = -1
                ring(-1) = -1
                ring(59) = -1
                ring(60) = -1
                ring(2147483647) = -1
                ring(-2147483648) = -1
                """;
        Runs.check("promise 18: -1 when there is none such: before any ring", none + """
                begin() = 0
                begin() = 1
                put(0, 10, true) = 1
                put(1, 10, true) = 0
                """ + none + "abort(0) = 1\n" + none);
        Runs.check("promise 18: members by their numbers, of the latest ring, as long as it is the latest", """
                begin() = 0
                begin() = 1
                begin() = 2
                begin() = 3
                begin() = 4
                put(0, 10, true) = 1
                put(4, 14, true) = 1
                put(2, 12, true) = 1
                put(4, 10, true) = 0
                put(2, 14, true) = 0
                put(0, 12, true) = 0
                ring(0) = 0
                ring(1) = 2
                ring(2) = 4
                ring(3) = -1
                put(3, 13, true) = 1
                put(1, 11, true) = 1
                put(3, 11, true) = 0
                put(1, 13, true) = 1
                """ + two + """
                abort(1) = 2
                abort(2) = 2
                commit(0) = 1
                begin() = 5
                put(5, 30, true) = 1
                commit(5) = 2
                """ + two);
    }

    private static void conflictsByKind() {
        String set = """
                begin() = 0
                begin() = 1
                begin() = 2
                put(0, 3, true) = 1
                commit(0) = 1
                put(1, 3, true) = -1
                note(2, 0) = 1
                commit(2) = 0
                """;
        Runs.checkEach("promise 19: by a triple (kind = 0), for a graph (1)", set, """
                conflicts(0, 3) = 1
                conflicts(0, 0) = 0
                conflicts(0, 2) = 0
                conflicts(0, 4) = 0
                conflicts(0, 199) = 0
                conflicts(1, 0) = 1
                conflicts(1, 1) = 0
                conflicts(1, 2) = 0
                conflicts(1, 3) = 0
                """ + Runs.outside("conflicts(0, #)", 200) + Runs.outside("conflicts(1, #)", 4)
                + Runs.outside("conflicts(#, 0)", 2) + Runs.outside("conflicts(#, 3)", 2)
                + Runs.outside("conflicts(#, 200)", 2) + Runs.outside("conflicts(#, -1)", 2));
        Runs.check("promise 19: so far, whatever ends later", set + """
                abort(1) = 0
                free() = 0
                conflicts(0, 3) = 1
                conflicts(1, 0) = 1
                """);
    }

    /** Every choice of noted graphs against every choice of changed ones. */
    private static void conflictsForTheLeastGraph() {
        for (int noted = 0; noted < 16; noted++) {
            for (int changed = 1; changed < 16; changed++) {
                StringBuilder lines = new StringBuilder("begin() = 0\nbegin() = 1\n");
                int count = 0;
                // From above, so that the first one noted or written is not the least one.
                for (int graph = 3; graph >= 0; graph--) {
                    if ((noted >> graph & 1) == 1) {
                        count++;
                        lines.append("note(0, %d) = %d\n".formatted(graph, count));
                    }
                    if ((changed >> graph & 1) == 1) {
                        lines.append("put(1, %d, true) = 1\n".formatted(50 * graph + 49));
                    }
                }
                int both = noted & changed;
                int least = (both & 1) == 1 ? 0 : (both & 2) == 2 ? 1 : (both & 4) == 4 ? 2 : (both & 8) == 8 ? 3 : -1;
                lines.append("commit(1) = 1\ncommit(0) = 0\nstate(0) = ").append(least < 0 ? 3 : 4).append('\n');
                Runs.check("promise 19: for the least one that had changed, " + noted + " against " + changed, lines
                        + Runs.each(0, 4, graph -> "conflicts(1, " + graph + ") = " + (graph == least ? 1 : 0)));
            }
        }
    }

    private static void conflictsOfMany() {
        String all = Runs.each(0, MOST, n -> "begin() = " + n) + "put(0, 199, true) = 1\n";
        Runs.check("promise 19: 59 writers failed by a triple", all + "commit(0) = 1\n"
                + Runs.each(1, MOST, n -> "put(" + n + ", 199, false) = -1\nconflicts(0, 199) = " + n)
                + "conflicts(1, 3) = 0");
        Runs.check("promise 19: 59 writers refused for a graph", all + "commit(0) = 1\n"
                + Runs.each(1, MOST, n -> "note(" + n + ", 3) = 1\ncommit(" + n + ") = 0\nconflicts(1, 3) = " + n)
                + "conflicts(0, 199) = 0");
        Runs.check("promise 19: those that a ring aborts, or that are aborted, are none", """
                begin() = 0
                begin() = 1
                begin() = 2
                put(0, 10, true) = 1
                put(1, 11, true) = 1
                put(0, 11, true) = 0
                put(1, 10, true) = -2
                note(2, 0) = 1
                put(2, 10, true) = 0
                commit(0) = 1
                conflicts(0, 10) = 1
                conflicts(0, 11) = 0
                abort(2) = 0
                conflicts(0, 10) = 1
                conflicts(1, 0) = 0
                """);
    }
}
