/** Runs for each promise: ordinary calls, the edges that the document names, and wrong calls. */
public final class PromisesTest {
    private PromisesTest() {
    }

    public static void main(String[] args) {
        newObject();
        begin();
        look();
        put();
        putWhereAnotherWasFirst();
        putOfWhatChangesNothing();
        rings();
        queues();
        note();
        read();
        told();
        commit();
        commitForGraphs();
        abort();
        pin();
        unpin();
        free();
        rowsAndLatest();
        least();
        leastOfOneThatWaits();
        state();
        waits();
        ring();
        conflicts();
        thrown();
        limits();
        Runs.end();
    }

    private static void newObject() {
        Runs.check("promise 1: a new object", """
                latest() = 0
                least() = 0
                rows() = 0
                free() = 0
                told(0, 0) = false
                told(0, 199) = false
                ring(0) = -1
                conflicts(0, 0) = 0
                conflicts(0, 199) = 0
                conflicts(1, 0) = 0
                conflicts(1, 3) = 0
                state(0) = throws.IllegalArgumentException
                told(1, 0) = throws.IllegalArgumentException
                unpin(0) = throws.IllegalArgumentException
                begin() = 0
                """);
        VersionTrans one = new VersionTrans();
        VersionTrans other = new VersionTrans();
        one.begin();
        one.put(0, 0, true);
        one.commit(0);
        Runs.due("promise 1: objects share nothing", "latest()", "" + other.latest(), "0");
        Runs.due("promise 1: objects share nothing", "begin()", "" + other.begin(), "0");
        Runs.due("promise 1: objects share nothing", "put(0, 0, true)", "" + other.put(0, 0, true), "1");
    }

    private static void begin() {
        Runs.check("promise 2: a writer sees the latest version", """
                begin() = 0
                begin() = 1
                put(0, 3, true) = 1
                commit(0) = 1
                begin() = 2
                read(1, 3) = false
                read(2, 3) = true
                state(2) = 0
                put(2, 3, false) = 1
                commit(2) = 2
                look(2) = 3
                begin() = 4
                read(4, 3) = false
                commit(4) = 2
                """);
    }

    private static void look() {
        Runs.check("promise 3: a reader sees the version that it names", """
                begin() = 0
                put(0, 3, true) = 1
                look(0) = 1
                commit(0) = 1
                begin() = 2
                put(2, 3, false) = 1
                put(2, 4, true) = 1
                commit(2) = 2
                look(0) = 3
                look(1) = 4
                look(2) = 5
                look(3) = throws.IllegalArgumentException
                look(-1) = throws.IllegalArgumentException
                look(2147483647) = throws.IllegalArgumentException
                look(-2147483648) = throws.IllegalArgumentException
                read(1, 3) = false
                read(3, 3) = false
                read(4, 3) = true
                read(5, 3) = false
                read(5, 4) = true
                put(4, 3, true) = throws.IllegalStateException
                note(4, 0) = throws.IllegalStateException
                commit(1) = 0
                least() = 0
                commit(3) = 0
                least() = 1
                look(0) = throws.IllegalArgumentException
                look(1) = 6
                abort(4) = 0
                least() = 1
                commit(6) = 1
                least() = 2
                look(1) = throws.IllegalArgumentException
                """);
    }

    private static void put() {
        Runs.check("promise 4: a write is done, and the later one to a triple counts", """
                begin() = 0
                put(0, 0, true) = 1
                put(0, 199, true) = 1
                put(0, 0, false) = 1
                put(0, 50, true) = 1
                put(0, 50, true) = 1
                read(0, 0) = false
                read(0, 199) = true
                put(0, 0, true) = 1
                put(0, 199, false) = 1
                told(0, 0) = false
                rows() = 0
                commit(0) = 1
                told(1, 0) = true
                told(1, 199) = false
                told(1, 50) = true
                rows() = 2
                put(0, 1, true) = throws.IllegalStateException
                """);
        Runs.check("promise 4: wrong arguments come before a wrong state", """
                begin() = 0
                look(0) = 1
                abort(0) = 0
                put(0, 200, true) = throws.IllegalArgumentException
                put(0, -1, true) = throws.IllegalArgumentException
                put(1, 200, true) = throws.IllegalArgumentException
                put(2, 0, true) = throws.IllegalArgumentException
                put(-1, 0, true) = throws.IllegalArgumentException
                put(60, 0, true) = throws.IllegalArgumentException
                put(2147483647, 0, true) = throws.IllegalArgumentException
                put(-2147483648, 0, true) = throws.IllegalArgumentException
                put(0, 2147483647, true) = throws.IllegalArgumentException
                put(0, -2147483648, true) = throws.IllegalArgumentException
                put(0, 0, true) = throws.IllegalStateException
                put(1, 0, true) = throws.IllegalStateException
                """);
    }

    private static void putWhereAnotherWasFirst() {
        Runs.check("promise 4: a row above the version that it sees fails it, before any holder is looked at", """
                begin() = 0
                begin() = 1
                begin() = 2
                put(1, 9, true) = 1
                put(0, 5, true) = 1
                commit(0) = 1
                begin() = 3
                put(3, 5, false) = 1
                put(1, 5, true) = -1
                state(1) = 2
                waits(1) = -1
                conflicts(0, 5) = 1
                put(1, 6, true) = throws.IllegalStateException
                note(1, 0) = throws.IllegalStateException
                put(2, 5, false) = -1
                conflicts(0, 5) = 2
                read(1, 9) = true
                read(1, 5) = false
                put(3, 9, true) = 0
                waits(3) = 1
                abort(1) = 1
                state(3) = 0
                read(3, 9) = true
                """);
        Runs.check("promise 4: one that waits keeps its write till the triple is free", """
                begin() = 0
                begin() = 1
                put(0, 5, false) = 1
                put(1, 5, true) = 0
                put(1, 6, true) = throws.IllegalStateException
                put(1, 5, false) = throws.IllegalStateException
                note(1, 0) = throws.IllegalStateException
                commit(1) = throws.IllegalStateException
                read(1, 5) = false
                commit(0) = 0
                latest() = 0
                state(1) = 0
                read(1, 5) = true
                commit(1) = 1
                told(1, 5) = true
                """);
    }

    private static void putOfWhatChangesNothing() {
        Runs.check("promise 4: a write that changes nothing holds its triple too", """
                begin() = 0
                begin() = 1
                put(0, 7, false) = 1
                put(1, 7, true) = 0
                waits(1) = 0
                abort(0) = 1
                state(1) = 0
                commit(1) = 1
                begin() = 2
                begin() = 3
                put(2, 7, true) = 1
                put(3, 7, false) = 0
                commit(2) = 1
                state(3) = 0
                commit(3) = 2
                """);
    }

    private static void rings() {
        Runs.check("promise 4: a ring aborts the greatest one, though the least began to wait last", """
                begin() = 0
                begin() = 1
                begin() = 2
                put(0, 10, true) = 1
                put(1, 11, true) = 1
                put(2, 12, true) = 1
                put(2, 11, true) = 0
                put(1, 10, true) = 0
                put(0, 12, true) = 1
                state(0) = 0
                state(1) = 1
                state(2) = 4
                waits(1) = 0
                waits(2) = -1
                read(0, 12) = true
                abort(2) = throws.IllegalStateException
                commit(0) = 1
                state(1) = 2
                """);
        Runs.check("promise 4: the one that closes a ring may go on waiting", """
                begin() = 0
                begin() = 1
                begin() = 2
                put(0, 10, true) = 1
                put(1, 11, true) = 1
                put(2, 12, true) = 1
                put(1, 12, true) = 0
                put(2, 10, true) = 0
                put(0, 11, true) = 0
                state(2) = 4
                waits(0) = 1
                state(1) = 0
                read(1, 12) = true
                ring(0) = 0
                ring(1) = 1
                ring(2) = 2
                """);
        Runs.check("promise 4: one that waits for a member is none itself, and a failed one ends no ring", """
                begin() = 0
                begin() = 1
                begin() = 2
                put(0, 10, true) = 1
                put(1, 11, true) = 1
                put(2, 10, true) = 0
                put(0, 11, true) = 0
                put(1, 10, true) = -2
                ring(0) = 0
                ring(1) = 1
                ring(2) = -1
                state(0) = 0
                waits(2) = 0
                begin() = 3
                begin() = 4
                put(3, 20, true) = 1
                put(4, 21, true) = 1
                begin() = 5
                put(5, 22, true) = 1
                commit(5) = 1
                put(3, 22, true) = -1
                put(4, 20, true) = 0
                waits(4) = 3
                ring(1) = 1
                """);
    }

    private static void queues() {
        Runs.check("when a writer ends: who began to wait first comes first, whatever its number", """
                begin() = 0
                begin() = 1
                begin() = 2
                begin() = 3
                put(0, 10, true) = 1
                put(3, 10, true) = 0
                put(1, 10, true) = 0
                put(2, 10, true) = 0
                abort(0) = 1
                state(3) = 0
                waits(1) = 3
                waits(2) = 3
                abort(3) = 1
                state(1) = 0
                waits(2) = 1
                abort(2) = 0
                commit(1) = 1
                """);
        Runs.check("when a writer ends: all that it held is free, and a waiter frees its own only at its end", """
                begin() = 0
                begin() = 1
                begin() = 2
                begin() = 3
                put(0, 10, true) = 1
                put(0, 11, true) = 1
                put(1, 12, true) = 1
                put(1, 11, true) = 0
                put(2, 10, true) = 0
                put(3, 12, true) = 0
                commit(0) = 1
                state(1) = 2
                state(2) = 2
                waits(3) = 1
                conflicts(0, 10) = 1
                conflicts(0, 11) = 1
                conflicts(0, 12) = 0
                commit(1) = 0
                state(3) = 0
                commit(3) = 2
                told(2, 12) = true
                """);
        Runs.check("when a writer ends: each that waits gets what it waits for, or waits for the one that has it now", """
                begin() = 0
                begin() = 1
                begin() = 2
                begin() = 3
                put(0, 10, true) = 1
                put(1, 11, true) = 1
                put(1, 10, true) = 0
                put(2, 10, false) = 0
                put(3, 11, true) = 0
                abort(0) = 1
                state(1) = 0
                waits(2) = 1
                waits(3) = 1
                abort(1) = 2
                state(2) = 0
                state(3) = 0
                read(2, 10) = false
                read(3, 11) = true
                commit(3) = 1
                commit(2) = 0
                """);
    }

    private static void note() {
        Runs.check("promise 5: how many graphs are noted", """
                begin() = 0
                note(0, 2) = 1
                note(0, 2) = 1
                note(0, 0) = 2
                note(0, 3) = 3
                note(0, 1) = 4
                note(0, 0) = 4
                note(0, 4) = throws.IllegalArgumentException
                note(0, -1) = throws.IllegalArgumentException
                note(0, 2147483647) = throws.IllegalArgumentException
                note(1, 0) = throws.IllegalArgumentException
                note(-1, 0) = throws.IllegalArgumentException
                begin() = 1
                note(1, 3) = 1
                look(0) = 2
                note(2, 4) = throws.IllegalArgumentException
                note(2, 0) = throws.IllegalStateException
                commit(0) = 0
                state(0) = 3
                note(0, 0) = throws.IllegalStateException
                note(0, 4) = throws.IllegalArgumentException
                """);
    }

    private static void read() {
        Runs.check("promise 6: own writes before the version that is seen, also waiting or failed", """
                begin() = 0
                put(0, 1, true) = 1
                put(0, 2, true) = 1
                commit(0) = 1
                begin() = 1
                begin() = 2
                put(1, 1, false) = 1
                read(1, 1) = false
                read(2, 1) = true
                read(1, 2) = true
                put(2, 3, true) = 1
                put(2, 1, false) = 0
                read(2, 1) = true
                read(2, 3) = true
                commit(1) = 2
                state(2) = 2
                read(2, 1) = true
                read(2, 3) = true
                read(1, 1) = throws.IllegalStateException
                read(1, 200) = throws.IllegalArgumentException
                read(2, 200) = throws.IllegalArgumentException
                read(2, -1) = throws.IllegalArgumentException
                read(3, 1) = throws.IllegalArgumentException
                read(-1, 1) = throws.IllegalArgumentException
                look(1) = 3
                read(3, 1) = true
                commit(2) = 0
                read(2, 1) = throws.IllegalStateException
                commit(3) = 1
                read(3, 1) = throws.IllegalStateException
                """);
    }

    private static void told() {
        Runs.check("promise 7: the row with the greatest number not above counts", """
                pin(0) = 1
                begin() = 0
                put(0, 149, true) = 1
                commit(0) = 1
                begin() = 1
                put(1, 5, true) = 1
                commit(1) = 2
                begin() = 2
                put(2, 149, false) = 1
                commit(2) = 3
                told(0, 149) = false
                told(1, 149) = true
                told(2, 149) = true
                told(3, 149) = false
                told(1, 5) = false
                told(2, 5) = true
                told(4, 5) = throws.IllegalArgumentException
                told(-1, 5) = throws.IllegalArgumentException
                told(3, 200) = throws.IllegalArgumentException
                told(3, -1) = throws.IllegalArgumentException
                told(2147483647, 5) = throws.IllegalArgumentException
                unpin(0) = 0
                told(2, 5) = throws.IllegalArgumentException
                told(3, 5) = true
                """);
    }

    private static void commit() {
        Runs.check("promise 8: the next version, or the one that is seen when nothing changes", """
                begin() = 0
                put(0, 1, true) = 1
                put(0, 2, false) = 1
                commit(0) = 1
                state(0) = 3
                rows() = 1
                begin() = 1
                begin() = 2
                put(1, 1, false) = 1
                put(1, 60, true) = 1
                commit(1) = 2
                rows() = 3
                put(2, 2, false) = 1
                put(2, 199, false) = 1
                commit(2) = 1
                state(2) = 3
                latest() = 2
                rows() = 3
                look(2) = 3
                begin() = 4
                put(4, 1, true) = 1
                put(4, 1, false) = 1
                commit(4) = 2
                begin() = 5
                put(5, 1, true) = 1
                commit(5) = 3
                commit(3) = 2
                state(3) = 3
                commit(3) = throws.IllegalStateException
                commit(5) = throws.IllegalStateException
                commit(6) = throws.IllegalArgumentException
                commit(-1) = throws.IllegalArgumentException
                commit(2147483647) = throws.IllegalArgumentException
                told(3, 1) = true
                """);
        Runs.check("promise 8: a failed one is aborted and frees what it held; one that waits can't", """
                begin() = 0
                begin() = 1
                put(0, 1, true) = 1
                put(1, 2, true) = 1
                commit(0) = 1
                put(1, 1, true) = -1
                begin() = 2
                put(2, 2, true) = 0
                commit(2) = throws.IllegalStateException
                commit(1) = 0
                state(1) = 4
                state(2) = 0
                latest() = 1
                commit(2) = 2
                told(2, 2) = true
                """);
    }

    private static void commitForGraphs() {
        Runs.check("promises 5 and 8: refused where a noted graph has changed, at the edges of the graphs", """
                begin() = 0
                begin() = 1
                begin() = 2
                begin() = 3
                begin() = 4
                note(0, 0) = 1
                note(1, 1) = 1
                note(2, 2) = 1
                note(3, 3) = 1
                put(1, 10, true) = 1
                put(4, 50, true) = 1
                put(4, 99, true) = 1
                commit(4) = 1
                put(0, 11, true) = 1
                commit(0) = 2
                begin() = 5
                put(5, 149, true) = 1
                commit(5) = 3
                commit(3) = 0
                state(3) = 3
                commit(1) = 0
                state(1) = 4
                told(3, 10) = false
                commit(2) = 0
                state(2) = 4
                conflicts(1, 0) = 0
                conflicts(1, 1) = 1
                conflicts(1, 2) = 1
                conflicts(1, 3) = 0
                """);
        Runs.check("promises 5 and 8: a graph that changed before, or by itself, is no matter", """
                begin() = 0
                put(0, 0, true) = 1
                note(0, 0) = 1
                commit(0) = 1
                begin() = 1
                note(1, 0) = 1
                put(1, 1, true) = 1
                commit(1) = 2
                begin() = 2
                note(2, 0) = 1
                begin() = 3
                put(3, 0, true) = 1
                commit(3) = 2
                commit(2) = 2
                state(2) = 3
                conflicts(1, 0) = 0
                """);
        Runs.check("promise 19: counted for the least graph that changed, and for a failed one not at all", """
                begin() = 0
                begin() = 1
                begin() = 2
                note(1, 3) = 1
                note(1, 2) = 2
                note(1, 0) = 3
                note(2, 1) = 1
                put(0, 150, true) = 1
                put(0, 100, true) = 1
                put(0, 50, true) = 1
                commit(0) = 1
                put(2, 50, true) = -1
                put(1, 0, true) = 1
                begin() = 3
                put(3, 0, true) = 0
                commit(1) = 0
                state(3) = 0
                commit(2) = 0
                conflicts(1, 0) = 0
                conflicts(1, 1) = 0
                conflicts(1, 2) = 1
                conflicts(1, 3) = 0
                conflicts(0, 50) = 1
                """);
    }

    private static void abort() {
        Runs.check("promise 9: how many writes it had, and nothing is left of them", """
                begin() = 0
                put(0, 1, true) = 1
                put(0, 2, true) = 1
                put(0, 1, false) = 1
                abort(0) = 2
                state(0) = 4
                latest() = 0
                rows() = 0
                abort(0) = throws.IllegalStateException
                abort(1) = throws.IllegalArgumentException
                abort(-1) = throws.IllegalArgumentException
                begin() = 1
                put(1, 2, true) = 1
                begin() = 2
                put(2, 3, true) = 1
                put(2, 2, true) = 0
                abort(2) = 1
                state(2) = 4
                waits(2) = -1
                begin() = 3
                put(3, 3, true) = 1
                commit(1) = 1
                state(2) = 4
                put(3, 2, true) = -1
                abort(3) = 1
                state(3) = 4
                look(1) = 4
                abort(4) = 0
                state(4) = 4
                begin() = 5
                commit(5) = 1
                abort(5) = throws.IllegalStateException
                told(1, 2) = true
                told(1, 3) = false
                """);
    }

    private static void pin() {
        Runs.check("promise 10: a pinned version is kept", """
                pin(0) = 1
                pin(0) = 2
                begin() = 0
                put(0, 1, true) = 1
                commit(0) = 1
                least() = 0
                begin() = 1
                put(1, 1, false) = 1
                commit(1) = 2
                pin(1) = 1
                pin(2) = 1
                pin(3) = throws.IllegalArgumentException
                pin(-1) = throws.IllegalArgumentException
                pin(2147483647) = throws.IllegalArgumentException
                pin(-2147483648) = throws.IllegalArgumentException
                unpin(0) = 1
                least() = 0
                unpin(0) = 0
                least() = 1
                pin(0) = throws.IllegalArgumentException
                told(1, 1) = true
                free() = 0
                pin(1) = 2
                """);
    }

    private static void unpin() {
        Runs.check("promise 11: pinned once less, and none that is not pinned", """
                unpin(0) = throws.IllegalArgumentException
                pin(0) = 1
                pin(0) = 2
                pin(0) = 3
                unpin(0) = 2
                unpin(0) = 1
                unpin(0) = 0
                unpin(0) = throws.IllegalArgumentException
                unpin(1) = throws.IllegalArgumentException
                unpin(60) = throws.IllegalArgumentException
                unpin(61) = throws.IllegalArgumentException
                unpin(-1) = throws.IllegalArgumentException
                unpin(2147483647) = throws.IllegalArgumentException
                unpin(-2147483648) = throws.IllegalArgumentException
                pin(0) = 1
                begin() = 0
                put(0, 1, true) = 1
                commit(0) = 1
                unpin(1) = throws.IllegalArgumentException
                least() = 0
                unpin(0) = 0
                least() = 1
                unpin(0) = throws.IllegalArgumentException
                """);
    }

    private static void free() {
        Runs.check("promise 12: rows that no version from the least kept one on needs", """
                begin() = 0
                put(0, 1, true) = 1
                put(0, 2, true) = 1
                put(0, 3, true) = 1
                commit(0) = 1
                begin() = 1
                put(1, 1, false) = 1
                put(1, 2, false) = 1
                commit(1) = 2
                begin() = 2
                put(2, 1, true) = 1
                commit(2) = 3
                pin(3) = 1
                begin() = 3
                put(3, 1, false) = 1
                put(3, 3, false) = 1
                commit(3) = 4
                rows() = 8
                free() = 4
                rows() = 4
                told(3, 1) = true
                told(3, 2) = false
                told(3, 3) = true
                told(4, 1) = false
                told(4, 2) = false
                told(4, 3) = false
                free() = 0
                unpin(3) = 0
                free() = 4
                rows() = 0
                told(4, 1) = false
                told(4, 3) = false
                """);
        Runs.check("promise 12: a row that tells not there goes from below a newer one", """
                begin() = 0
                put(0, 1, true) = 1
                commit(0) = 1
                begin() = 1
                put(1, 1, false) = 1
                commit(1) = 2
                pin(2) = 1
                begin() = 2
                put(2, 1, true) = 1
                commit(2) = 3
                free() = 2
                rows() = 1
                told(2, 1) = false
                told(3, 1) = true
                """);
        Runs.check("promise 12: what open, waiting and failed ones see is needed", """
                begin() = 0
                put(0, 1, true) = 1
                commit(0) = 1
                begin() = 1
                begin() = 2
                put(2, 1, false) = 1
                commit(2) = 2
                begin() = 3
                put(3, 1, true) = 1
                commit(3) = 3
                free() = 0
                read(1, 1) = true
                put(1, 1, false) = -1
                free() = 0
                read(1, 1) = true
                abort(1) = 0
                free() = 2
                rows() = 1
                told(3, 1) = true
                """);
        Runs.check("promise 12: a triple without rows is written anew", """
                begin() = 0
                put(0, 1, true) = 1
                commit(0) = 1
                begin() = 1
                put(1, 1, false) = 1
                commit(1) = 2
                begin() = 2
                free() = 2
                rows() = 0
                put(2, 1, false) = 1
                commit(2) = 2
                begin() = 3
                put(3, 1, true) = 1
                commit(3) = 3
                rows() = 1
                told(3, 1) = true
                free() = 0
                """);
    }

    private static void rowsAndLatest() {
        Runs.check("promises 13 and 14: rows and the latest version grow by commits alone", """
                begin() = 0
                begin() = 1
                put(0, 1, true) = 1
                put(0, 51, true) = 1
                put(1, 2, true) = 1
                rows() = 0
                latest() = 0
                commit(0) = 1
                rows() = 2
                latest() = 1
                abort(1) = 1
                rows() = 2
                latest() = 1
                begin() = 2
                put(2, 1, true) = 1
                put(2, 51, false) = 1
                commit(2) = 2
                rows() = 3
                latest() = 2
                free() = 2
                rows() = 1
                latest() = 2
                """);
    }

    private static void least() {
        Runs.check("promise 15: open, waiting and failed ones, pins and the latest one", """
                begin() = 0
                put(0, 1, true) = 1
                commit(0) = 1
                least() = 1
                begin() = 1
                begin() = 2
                put(2, 2, true) = 1
                put(1, 2, true) = 0
                begin() = 3
                put(3, 3, true) = 1
                commit(3) = 2
                least() = 1
                commit(2) = 3
                state(1) = 2
                least() = 1
                look(2) = 4
                pin(3) = 1
                abort(1) = 0
                least() = 2
                commit(4) = 2
                least() = 3
                begin() = 5
                put(5, 9, true) = 1
                commit(5) = 4
                least() = 3
                unpin(3) = 0
                least() = 4
                """);
    }

    private static void leastOfOneThatWaits() {
        Runs.check("promise 15: one that waits keeps its version alone", """
                begin() = 0
                begin() = 1
                put(0, 1, true) = 1
                commit(0) = 1
                begin() = 2
                put(2, 2, true) = 1
                least() = 0
                put(1, 2, true) = 0
                least() = 0
                told(0, 1) = false
                free() = 0
                abort(1) = 0
                least() = 1
                told(0, 1) = throws.IllegalArgumentException
                """);
    }

    private static void state() {
        Runs.check("promise 16: open, waiting, failed, committed, aborted", """
                begin() = 0
                begin() = 1
                look(0) = 2
                state(0) = 0
                state(2) = 0
                put(0, 1, true) = 1
                state(0) = 0
                put(1, 1, true) = 0
                state(1) = 1
                commit(0) = 1
                state(0) = 3
                state(1) = 2
                abort(1) = 0
                state(1) = 4
                state(2) = 0
                commit(2) = 0
                state(2) = 3
                state(3) = throws.IllegalArgumentException
                state(-1) = throws.IllegalArgumentException
                state(60) = throws.IllegalArgumentException
                state(2147483647) = throws.IllegalArgumentException
                state(-2147483648) = throws.IllegalArgumentException
                """);
    }

    private static void waits() {
        Runs.check("promise 17: for which it waits", """
                begin() = 0
                begin() = 1
                begin() = 2
                look(0) = 3
                waits(0) = -1
                waits(3) = -1
                put(2, 1, true) = 1
                put(1, 1, true) = 0
                waits(1) = 2
                waits(2) = -1
                put(0, 1, true) = 0
                waits(0) = 2
                abort(2) = 1
                waits(1) = -1
                waits(0) = 1
                commit(1) = 1
                waits(0) = -1
                waits(1) = -1
                waits(4) = throws.IllegalArgumentException
                waits(-1) = throws.IllegalArgumentException
                waits(2147483647) = throws.IllegalArgumentException
                """);
    }

    private static void ring() {
        Runs.check("promise 18: the members of the latest ring, by their numbers", """
                ring(0) = -1
                ring(-1) = -1
                begin() = 0
                begin() = 1
                begin() = 2
                begin() = 3
                begin() = 4
                put(0, 10, true) = 1
                put(2, 12, true) = 1
                put(3, 13, true) = 1
                put(3, 12, true) = 0
                put(0, 13, true) = 0
                ring(0) = -1
                put(2, 10, true) = 0
                state(3) = 4
                ring(0) = 0
                ring(1) = 2
                ring(2) = 3
                ring(3) = -1
                ring(-1) = -1
                ring(59) = -1
                ring(60) = -1
                ring(2147483647) = -1
                ring(-2147483648) = -1
                waits(2) = 0
                state(0) = 0
                put(4, 14, true) = 1
                put(1, 11, true) = 1
                put(1, 14, true) = 0
                put(4, 11, true) = -2
                ring(0) = 1
                ring(1) = 4
                ring(2) = -1
                abort(1) = 2
                ring(0) = 1
                ring(1) = 4
                """);
    }

    private static void conflicts() {
        Runs.check("promise 19: failures are counted by the triple, at a put and when tried again", """
                begin() = 0
                begin() = 1
                begin() = 2
                begin() = 3
                put(0, 199, true) = 1
                put(0, 0, true) = 1
                put(1, 199, true) = 0
                put(2, 199, true) = 0
                conflicts(0, 199) = 0
                commit(0) = 1
                conflicts(0, 199) = 2
                conflicts(0, 0) = 0
                put(3, 0, true) = -1
                conflicts(0, 0) = 1
                abort(1) = 0
                commit(2) = 0
                conflicts(0, 199) = 2
                conflicts(1, 0) = 0
                conflicts(1, 3) = 0
                conflicts(0, 200) = throws.IllegalArgumentException
                conflicts(0, -1) = throws.IllegalArgumentException
                conflicts(1, 4) = throws.IllegalArgumentException
                conflicts(1, -1) = throws.IllegalArgumentException
                conflicts(2, 0) = throws.IllegalArgumentException
                conflicts(-1, 0) = throws.IllegalArgumentException
                conflicts(2147483647, 0) = throws.IllegalArgumentException
                conflicts(0, 2147483647) = throws.IllegalArgumentException
                conflicts(1, -2147483648) = throws.IllegalArgumentException
                """);
    }

    private static void thrown() {
        Runs.check("thrown: nothing is changed then", """
                begin() = 0
                begin() = 1
                look(0) = 2
                put(0, 1, true) = 1
                put(1, 1, false) = 0
                put(1, 2, true) = throws.IllegalStateException
                put(2, 2, true) = throws.IllegalStateException
                put(0, 200, true) = throws.IllegalArgumentException
                note(1, 0) = throws.IllegalStateException
                note(2, 0) = throws.IllegalStateException
                note(0, 4) = throws.IllegalArgumentException
                commit(1) = throws.IllegalStateException
                look(1) = throws.IllegalArgumentException
                pin(1) = throws.IllegalArgumentException
                unpin(0) = throws.IllegalArgumentException
                read(0, -1) = throws.IllegalArgumentException
                state(0) = 0
                state(1) = 1
                state(2) = 0
                waits(1) = 0
                read(0, 1) = true
                read(0, 2) = false
                note(0, 3) = 1
                pin(0) = 1
                begin() = 3
                put(3, 2, true) = 1
                commit(0) = 1
                state(1) = 2
                conflicts(0, 1) = 1
                commit(0) = throws.IllegalStateException
                abort(0) = throws.IllegalStateException
                put(1, 5, true) = throws.IllegalStateException
                note(1, 0) = throws.IllegalStateException
                read(0, 1) = throws.IllegalStateException
                state(0) = 3
                latest() = 1
                rows() = 1
                conflicts(0, 1) = 1
                conflicts(0, 5) = 0
                abort(1) = 0
                commit(3) = 2
                """);
    }

    private static void limits() {
        StringBuilder sixty = new StringBuilder("look(0) = 0\n");
        for (int number = 1; number < 60; number++) {
            sixty.append("begin() = ").append(number).append('\n');
        }
        Runs.check("promises 2 and 3: sixty transactions and no more, though some have ended", sixty + """
                begin() = throws.IllegalStateException
                look(0) = throws.IllegalStateException
                look(1) = throws.IllegalArgumentException
                abort(0) = 0
                abort(59) = 0
                begin() = throws.IllegalStateException
                look(0) = throws.IllegalStateException
                state(59) = 4
                state(60) = throws.IllegalArgumentException
                """);

        StringBuilder versions = new StringBuilder("pin(0) = 1\n");
        for (int number = 0; number < 60; number++) {
            versions.append("begin() = ").append(number).append("\nput(").append(number).append(", 5, ")
                    .append(number % 2 == 0).append(") = 1\ncommit(").append(number).append(") = ")
                    .append(number + 1).append('\n');
        }
        Runs.check("each transaction may make a version", versions + """
                latest() = 60
                rows() = 60
                told(60, 5) = false
                told(59, 5) = true
                pin(60) = 1
                pin(61) = throws.IllegalArgumentException
                pin(59) = 1
                unpin(0) = 0
                least() = 59
                free() = 58
                rows() = 2
                unpin(59) = 0
                free() = 2
                """);

        StringBuilder ring = new StringBuilder();
        for (int number = 0; number < 60; number++) {
            ring.append("begin() = ").append(number).append("\nput(").append(number).append(", ").append(number)
                    .append(", true) = 1\n");
        }
        for (int number = 0; number < 59; number++) {
            ring.append("put(").append(number).append(", ").append(number + 1).append(", true) = 0\n");
        }
        ring.append("put(59, 0, true) = -2\n");
        for (int number = 0; number < 60; number++) {
            ring.append("ring(").append(number).append(") = ").append(number).append('\n');
        }
        Runs.check("a ring of all sixty", ring + """
                ring(60) = -1
                state(58) = 0
                waits(57) = 58
                commit(58) = 1
                state(57) = 2
                waits(56) = 57
                """);
    }
}
