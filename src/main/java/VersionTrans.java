/**
 * Triples in versions: transactions see one version and their own writes, wait for one another,
 * fail where another one was first, and make the next version whole or not at all.
 */
public final class VersionTrans {
    private static final int TRIPLES = 200;
    private static final int GRAPHS = 4;
    private static final int TRIPLES_OF_A_GRAPH = TRIPLES / GRAPHS;
    private static final int MOST_TRANSACTIONS = 60;
    // Each transaction makes at most one version, and version 0 is there before all of them.
    private static final int MOST_VERSIONS = MOST_TRANSACTIONS + 1;
    // Each transaction ends once, and all the others at most come behind the queue then.
    private static final int MOST_TRIES = MOST_TRANSACTIONS * MOST_TRANSACTIONS;

    private static final int OPEN = 0;
    private static final int WAITING = 1;
    private static final int FAILED = 2;
    private static final int COMMITTED = 3;
    private static final int ABORTED = 4;

    private static final int BY_TRIPLE = 0;
    private static final int BY_GRAPH = 1;

    private final Transaction[] transactions = new Transaction[MOST_TRANSACTIONS];
    private int transactionCount = 0;
    private final History history = new History();
    private int latestVersion = 0;
    private final int[] pins = new int[MOST_VERSIONS];

    // Only its holder can have written a triple, so one value for each triple keeps all own writes.
    private final Transaction[] holders = new Transaction[TRIPLES];
    private final boolean[] written = new boolean[TRIPLES];

    private final Queue queue = new Queue();
    private int waitsBegun = 0;
    private final boolean[] inLatestRing = new boolean[MOST_TRANSACTIONS];

    private final int[] failuresByTriple = new int[TRIPLES];
    private final int[] refusalsByGraph = new int[GRAPHS];

    public VersionTrans() {
    }

    public int begin() throws IllegalStateException {
        return start(true, latestVersion);
    }

    public int look(int version) throws IllegalArgumentException, IllegalStateException {
        checkVersion(version);
        return start(false, version);
    }

    public int put(int transaction, int triple, boolean there)
            throws IllegalArgumentException, IllegalStateException {
        Transaction writer = find(transaction);
        checkTriple(triple);
        checkOpenWriter(writer);
        write(writer, triple, there);
        retryQueued();
        return outcomeOfPut(writer);
    }

    public int note(int transaction, int graph) throws IllegalArgumentException, IllegalStateException {
        Transaction writer = find(transaction);
        checkGraph(graph);
        checkOpenWriter(writer);
        writer.notedGraphs |= 1 << graph;
        return Integer.bitCount(writer.notedGraphs);
    }

    public boolean read(int transaction, int triple) throws IllegalArgumentException, IllegalStateException {
        Transaction reader = find(transaction);
        checkTriple(triple);
        checkNotEnded(reader);
        return holders[triple] == reader ? written[triple] : history.tells(triple, reader.seen);
    }

    public boolean told(int version, int triple) throws IllegalArgumentException {
        checkVersion(version);
        checkTriple(triple);
        return history.tells(triple, version);
    }

    public int commit(int transaction) throws IllegalArgumentException, IllegalStateException {
        Transaction ending = find(transaction);
        checkNotEnded(ending);
        checkNotWaiting(ending);
        boolean refused = ending.status == FAILED || isRefusedForGraph(ending);
        int answer = refused ? 0 : makeVersion(ending);
        end(ending, refused ? ABORTED : COMMITTED);
        retryQueued();
        return answer;
    }

    public int abort(int transaction) throws IllegalArgumentException, IllegalStateException {
        Transaction ending = find(transaction);
        checkNotEnded(ending);
        int writes = countWrites(ending);
        end(ending, ABORTED);
        retryQueued();
        return writes;
    }

    public int pin(int version) throws IllegalArgumentException {
        checkVersion(version);
        pins[version]++;
        return pins[version];
    }

    public int unpin(int version) throws IllegalArgumentException {
        checkPinned(version);
        pins[version]--;
        return pins[version];
    }

    public int free() {
        return history.dropUnneeded(leastKept());
    }

    public int rows() {
        return history.size;
    }

    public int latest() {
        return latestVersion;
    }

    public int least() {
        return leastKept();
    }

    public int state(int transaction) throws IllegalArgumentException {
        return find(transaction).status;
    }

    public int waits(int transaction) throws IllegalArgumentException {
        Transaction awaited = find(transaction).waitsFor;
        return awaited == null ? -1 : awaited.number;
    }

    public int ring(int i) {
        int before = 0;
        for (int number = 0; number < MOST_TRANSACTIONS; number++) {
            if (inLatestRing[number]) {
                if (before == i) {
                    return number;
                }
                before++;
            }
        }
        return -1;
    }

    public int conflicts(int kind, int number) throws IllegalArgumentException {
        if (kind == BY_TRIPLE) {
            checkTriple(number);
            return failuresByTriple[number];
        }
        if (kind == BY_GRAPH) {
            checkGraph(number);
            return refusalsByGraph[number];
        }
        throw new IllegalArgumentException("no such kind of conflict");
    }

    private Transaction find(int number) {
        Transaction found = number >= 0 && number < MOST_TRANSACTIONS ? transactions[number] : null;
        if (found == null) {
            throw new IllegalArgumentException("no such transaction");
        }
        return found;
    }

    private static void checkTriple(int triple) {
        if (triple < 0 || triple >= TRIPLES) {
            throw new IllegalArgumentException("no such triple");
        }
    }

    private static void checkGraph(int graph) {
        if (graph < 0 || graph >= GRAPHS) {
            throw new IllegalArgumentException("no such graph");
        }
    }

    private void checkVersion(int version) {
        if (version < leastKept() || version > latestVersion) {
            throw new IllegalArgumentException("no such version from the least kept one on");
        }
    }

    private void checkPinned(int version) {
        if (version < 0 || version >= MOST_VERSIONS || pins[version] <= 0) {
            throw new IllegalArgumentException("no such version is pinned");
        }
    }

    private static void checkNotEnded(Transaction transaction) {
        if (transaction.hasEnded()) {
            throw new IllegalStateException("the transaction has ended");
        }
    }

    private static void checkNotWaiting(Transaction transaction) {
        if (transaction.status == WAITING) {
            throw new IllegalStateException("the transaction waits");
        }
    }

    private static void checkOpenWriter(Transaction transaction) {
        if (!transaction.isWriter || transaction.status != OPEN) {
            throw new IllegalStateException("the transaction is not an open writer");
        }
    }

    private int start(boolean isWriter, int version) {
        if (transactionCount >= MOST_TRANSACTIONS) {
            throw new IllegalStateException("no room for one more transaction");
        }
        int number = transactionCount;
        transactions[number] = new Transaction(number, isWriter, version);
        transactionCount++;
        return number;
    }

    private void write(Transaction writer, int triple, boolean there) {
        Transaction holder = holders[triple];
        writer.waitsFor = null;
        if (history.hasRowAbove(triple, writer.seen)) {
            writer.status = FAILED;
            failuresByTriple[triple]++;
        } else if (holder != null && holder != writer) {
            writer.beginWaiting(holder, triple, there, waitsBegun);
            waitsBegun++;
            breakRing(writer);
        } else {
            writer.status = OPEN;
            holders[triple] = writer;
            written[triple] = there;
        }
    }

    private static int outcomeOfPut(Transaction writer) {
        if (writer.status == OPEN) {
            return 1;
        }
        if (writer.status == WAITING) {
            return 0;
        }
        return writer.status == FAILED ? -1 : -2;
    }

    private void breakRing(Transaction start) {
        if (!comesBackTo(start)) {
            return;
        }
        forgetLatestRing();
        inLatestRing[start.number] = true;
        Transaction greatest = start;
        Transaction member = start.waitsFor;
        for (int steps = 0; steps < MOST_TRANSACTIONS && member != null && member != start; steps++) {
            inLatestRing[member.number] = true;
            greatest = member.number > greatest.number ? member : greatest;
            member = member.waitsFor;
        }
        end(greatest, ABORTED);
    }

    private void forgetLatestRing() {
        for (int number = 0; number < MOST_TRANSACTIONS; number++) {
            inLatestRing[number] = false;
        }
    }

    private static boolean comesBackTo(Transaction start) {
        Transaction reached = start.waitsFor;
        for (int steps = 0; steps < MOST_TRANSACTIONS && reached != null; steps++) {
            if (reached == start) {
                return true;
            }
            reached = reached.waitsFor;
        }
        return false;
    }

    private void end(Transaction ending, int status) {
        ending.status = status;
        ending.waitsFor = null;
        for (int triple = 0; triple < TRIPLES; triple++) {
            if (holders[triple] == ending) {
                holders[triple] = null;
            }
        }
        queueWaitersFor(ending);
    }

    private void queueWaitersFor(Transaction ended) {
        Transaction waiter = firstWaiterFor(ended, 0);
        for (int count = 0; count < MOST_TRANSACTIONS && waiter != null; count++) {
            queue.append(waiter);
            waiter = firstWaiterFor(ended, waiter.waitsSince + 1);
        }
    }

    private Transaction firstWaiterFor(Transaction awaited, int from) {
        Transaction first = null;
        for (int number = 0; number < transactionCount; number++) {
            Transaction other = transactions[number];
            if (other != null && other.waitsFor == awaited && other.waitsSince >= from
                    && (first == null || other.waitsSince < first.waitsSince)) {
                first = other;
            }
        }
        return first;
    }

    private void retryQueued() {
        for (int tries = 0; tries < MOST_TRIES; tries++) {
            Transaction next = queue.takeFirst();
            if (next == null) {
                return;
            }
            if (next.status == WAITING) {
                write(next, next.wantedTriple, next.wantedThere);
            }
        }
    }

    private boolean isRefusedForGraph(Transaction writer) {
        for (int graph = 0; graph < GRAPHS; graph++) {
            if (writer.hasNoted(graph) && hasChanged(graph, writer.seen)) {
                refusalsByGraph[graph]++;
                return true;
            }
        }
        return false;
    }

    private boolean hasChanged(int graph, int since) {
        int first = graph * TRIPLES_OF_A_GRAPH;
        for (int triple = first; triple < first + TRIPLES_OF_A_GRAPH; triple++) {
            if (history.hasRowAbove(triple, since)) {
                return true;
            }
        }
        return false;
    }

    private int makeVersion(Transaction writer) {
        int next = latestVersion + 1;
        int answer = writer.seen;
        for (int triple = 0; triple < TRIPLES; triple++) {
            if (holders[triple] == writer && written[triple] != history.tells(triple, writer.seen)) {
                history.add(triple, next, written[triple]);
                latestVersion = next;
                answer = next;
            }
        }
        return answer;
    }

    private int countWrites(Transaction writer) {
        int count = 0;
        for (int triple = 0; triple < TRIPLES; triple++) {
            if (holders[triple] == writer) {
                count++;
            }
        }
        return count;
    }

    private int leastKept() {
        int least = latestVersion;
        for (int number = 0; number < transactionCount; number++) {
            Transaction transaction = transactions[number];
            if (transaction != null && !transaction.hasEnded()) {
                least = Math.min(least, transaction.seen);
            }
        }
        for (int version = 0; version < least; version++) {
            if (pins[version] > 0) {
                return version;
            }
        }
        return least;
    }

    private static final class Transaction {
        final int number;
        final boolean isWriter;
        final int seen;
        int status = OPEN;
        int notedGraphs = 0;
        // Not null just as long as the transaction waits, so that rings are found by it alone.
        Transaction waitsFor = null;
        int waitsSince = 0;
        int wantedTriple = 0;
        boolean wantedThere = false;

        Transaction(int number, boolean isWriter, int seen) {
            this.number = number;
            this.isWriter = isWriter;
            this.seen = seen;
        }

        boolean hasEnded() {
            return status == COMMITTED || status == ABORTED;
        }

        boolean hasNoted(int graph) {
            return (notedGraphs & (1 << graph)) != 0;
        }

        void beginWaiting(Transaction holder, int triple, boolean there, int since) {
            status = WAITING;
            waitsFor = holder;
            waitsSince = since;
            wantedTriple = triple;
            wantedThere = there;
        }
    }

    private static final class Row {
        final int version;
        final boolean there;
        Row older;

        Row(int version, boolean there, Row older) {
            this.version = version;
            this.there = there;
            this.older = older;
        }
    }

    private static final class History {
        private final Row[] newest = new Row[TRIPLES];
        int size = 0;

        boolean tells(int triple, int version) {
            for (Row row = newest[triple]; row != null; row = row.older) {
                if (row.version <= version) {
                    return row.there;
                }
            }
            return false;
        }

        boolean hasRowAbove(int triple, int version) {
            Row row = newest[triple];
            return row != null && row.version > version;
        }

        void add(int triple, int version, boolean there) {
            newest[triple] = new Row(version, there, newest[triple]);
            size++;
        }

        int dropUnneeded(int least) {
            int before = size;
            for (int triple = 0; triple < TRIPLES; triple++) {
                dropUnneededOf(triple, least);
            }
            return before - size;
        }

        private void dropUnneededOf(int triple, int least) {
            Row newer = null;
            Row row = newest[triple];
            while (row != null && row.version > least) {
                newer = row;
                row = row.older;
            }
            if (row == null) {
                return;
            }
            size -= lengthFrom(row.older);
            row.older = null;
            if (!row.there) {
                dropOldest(triple, newer);
            }
        }

        private static int lengthFrom(Row first) {
            int length = 0;
            for (Row row = first; row != null; row = row.older) {
                length++;
            }
            return length;
        }

        private void dropOldest(int triple, Row newer) {
            if (newer == null) {
                newest[triple] = null;
            } else {
                newer.older = null;
            }
            size--;
        }
    }

    private static final class Queue {
        // A transaction waits for one other at most, so it stands here at most once.
        private final Transaction[] places = new Transaction[MOST_TRANSACTIONS];
        private int first = 0;
        private int length = 0;

        void append(Transaction transaction) {
            if (length < MOST_TRANSACTIONS) {
                places[(first + length) % MOST_TRANSACTIONS] = transaction;
                length++;
            }
        }

        Transaction takeFirst() {
            if (length == 0) {
                return null;
            }
            Transaction taken = places[first];
            first = (first + 1) % MOST_TRANSACTIONS;
            length--;
            return taken;
        }
    }
}
