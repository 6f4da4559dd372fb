import java.util.NoSuchElementException;

/**
 * A workbench for timestamp ordering. The face only checks arguments and states; what a call changes
 * stands in the classes inside. All arrays are made by the constructors and used again, so that no
 * later call makes an object (but for the exception that it throws).
 */
public final class TimestampScheduler {
    public static final int ABORTED = Integer.MIN_VALUE;

    private static final int TRANSACTIONS = 16;
    private static final int OPERATIONS = 20;
    private static final int ITEMS = 8;
    /** Beside the first version, each transaction has at most one version of an item. */
    private static final int VERSIONS = 17;
    private static final int EVENTS = 50;
    private static final int EVENT_KINDS = 9;
    private static final int TEXT_LENGTH = 60;
    /** The shortest operation has two characters, and a space stands before the next one. */
    private static final int OPERATIONS_IN_TEXT = 20;
    private static final int LONGEST_NUMBER = 4;
    private static final int SLOTS = 3;
    private static final int ROW_LENGTH = 30;
    private static final int HIGHEST_PRIORITY = 9;
    private static final int NONE = -1;

    private static final int BASIC = 0;
    private static final int MULTIVERSION = 2;

    private static final int STATE_ACTIVE = 0;
    private static final int STATE_PENDING = 1;
    private static final int STATE_COMMITTED = 2;
    private static final int STATE_ABORTED = 3;

    private static final int KIND_READ = 0;
    private static final int KIND_WRITE = 1;
    private static final int KIND_ADDITION = 2;

    private static final int EVENT_BEGUN = 0;
    private static final int EVENT_READ = 1;
    private static final int EVENT_WRITTEN = 2;
    private static final int EVENT_WRITTEN_OBSOLETE = 3;
    private static final int EVENT_PENDING = 4;
    private static final int EVENT_COMMITTED = 5;
    private static final int EVENT_ABORTED = 6;
    private static final int EVENT_CASCADED = 7;
    private static final int EVENT_RESTARTED = 8;

    private static final int END_NONE = 0;
    private static final int END_COMMIT = 1;
    private static final int END_ABORT = 2;

    private static final int TYPE_FLOAT = 0;
    private static final int TYPE_INT = 1;

    private final Bench bench;
    private final Bench saved;
    private boolean hasSnapshot;
    private final Program program;
    private int keptError;
    private final Row[] rows;

    public TimestampScheduler() {
        bench = new Bench();
        saved = new Bench();
        hasSnapshot = false;
        program = new Program();
        keptError = NONE;
        rows = new Row[SLOTS];
        for (int slot = 0; slot < SLOTS; slot++) {
            rows[slot] = new Row();
        }
    }

    public int reset(int protocol) throws IllegalArgumentException {
        requireArgument(protocol >= BASIC && protocol <= MULTIVERSION);
        int previous = bench.protocol;
        bench.startAnew(protocol);
        return previous;
    }

    // ---- operations

    public int begin(int priority) throws IllegalArgumentException, IllegalStateException {
        requireArgument(priority >= 0 && priority <= HIGHEST_PRIORITY);
        requireState(bench.transactionCount < TRANSACTIONS);
        return bench.newTransaction(priority);
    }

    public int read(int transaction, int item)
            throws IndexOutOfBoundsException, IllegalStateException, UnsupportedOperationException {
        requireIndex(isTransaction(transaction) && isItem(item));
        requireActiveWithRoom(transaction, 1);
        return bench.ask(transaction, KIND_READ, item, 0);
    }

    public int write(int transaction, int item, int value)
            throws IndexOutOfBoundsException, IllegalStateException, UnsupportedOperationException {
        requireIndex(isTransaction(transaction) && isItem(item));
        requireActiveWithRoom(transaction, 1);
        return bench.ask(transaction, KIND_WRITE, item, value);
    }

    public int add(int transaction, int item, int number)
            throws IndexOutOfBoundsException, IllegalStateException, UnsupportedOperationException {
        requireIndex(isTransaction(transaction) && isItem(item));
        requireActiveWithRoom(transaction, 1);
        return bench.ask(transaction, KIND_ADDITION, item, number);
    }

    public boolean commit(int transaction) throws IndexOutOfBoundsException, IllegalStateException {
        requireIndex(isTransaction(transaction));
        requireState(bench.transactions[transaction].state == STATE_ACTIVE);
        return bench.askCommit(transaction);
    }

    public int abort(int transaction) throws IndexOutOfBoundsException, IllegalStateException {
        requireIndex(isTransaction(transaction));
        requireState(bench.transactions[transaction].isUncommitted());
        return bench.abortWithDependents(transaction, NONE);
    }

    public int restartNext() throws NoSuchElementException {
        int number = bench.nextToRestart();
        requireElement(number >= 0);
        bench.restartTransaction(number);
        return number;
    }

    // ---- programs

    public int append(char character) throws IllegalArgumentException, IllegalStateException {
        requireArgument(character >= 32 && character <= 126);
        requireState(program.length < TEXT_LENGTH);
        program.text[program.length] = character;
        program.length++;
        return program.length;
    }

    public int run(int transaction) throws IndexOutOfBoundsException, IllegalStateException,
            IllegalArgumentException, UnsupportedOperationException {
        requireIndex(isTransaction(transaction));
        requireState(bench.transactions[transaction].state == STATE_ACTIVE);
        int error = program.parse();
        program.length = 0;
        if (error >= 0) {
            keptError = error;
        }
        requireArgument(error < 0);
        requireActiveWithRoom(transaction, program.operationCount);
        return bench.execute(transaction, program);
    }

    public int errorPosition() throws NoSuchElementException {
        requireElement(keptError >= 0);
        return keptError;
    }

    // ---- transactions

    public int transactionCount() {
        return bench.transactionCount;
    }

    public int transaction(int transaction, int what) throws IndexOutOfBoundsException, IllegalArgumentException {
        requireIndex(isTransaction(transaction));
        requireArgument(what >= 0 && what <= 4);
        return bench.transactions[transaction].property(what);
    }

    public int dependencies(int transaction) throws IndexOutOfBoundsException {
        requireIndex(isTransaction(transaction));
        return bench.transactions[transaction].dependsOn;
    }

    public int cascade(int transaction) throws IndexOutOfBoundsException {
        requireIndex(isTransaction(transaction));
        return bench.transactionsAbortedWith(transaction);
    }

    public int operation(int transaction, int index, int what)
            throws IndexOutOfBoundsException, IllegalArgumentException {
        requireIndex(isTransaction(transaction));
        requireIndex(index >= 0 && index < bench.transactions[transaction].operationCount);
        requireArgument(what >= 0 && what <= 3);
        return bench.transactions[transaction].operationNumber(index, what);
    }

    // ---- items

    public int versionCount(int item) throws IndexOutOfBoundsException {
        requireIndex(isItem(item));
        return bench.chains[item].count;
    }

    public int version(int item, int index, int what) throws IndexOutOfBoundsException, IllegalArgumentException {
        requireIndex(isItem(item));
        requireIndex(index >= 0 && index < bench.chains[item].count);
        requireArgument(what >= 0 && what <= 4);
        if (what == 4) {
            return bench.isUncommittedWriter(bench.chains[item].writers[index]) ? 0 : 1;
        }
        return bench.chains[item].versionNumber(index, what);
    }

    public int valueAt(int item, int timestamp) throws IndexOutOfBoundsException, NoSuchElementException {
        requireIndex(isItem(item));
        int index = bench.lastCommittedAtMost(bench.chains[item], timestamp);
        requireElement(index >= 0);
        return bench.chains[item].values[index];
    }

    public int collect() {
        return bench.removeOldVersions();
    }

    public int horizon() {
        return bench.lowestNeededTimestamp();
    }

    public int check() {
        return bench.serialDifferences();
    }

    // ---- events and statistics

    public int eventCount() {
        return bench.events.count;
    }

    public int event(int index, int column) throws IndexOutOfBoundsException {
        requireIndex(index >= 0 && index < bench.events.count && column >= 0 && column <= 2);
        return bench.events.column(index, column);
    }

    public int total(int kind) throws IllegalArgumentException {
        requireArgument(kind >= 0 && kind < EVENT_KINDS);
        return bench.events.totals[kind];
    }

    public double abortShare() throws ArithmeticException {
        int given = bench.nextTimestamp - 1;
        if (given == 0) {
            throw new ArithmeticException("no timestamp was given");
        }
        int aborts = bench.events.totals[EVENT_ABORTED] + bench.events.totals[EVENT_CASCADED];
        return (double) aborts / (double) given;
    }

    // ---- rows

    public void allocate(int slot, int type, int length) throws IndexOutOfBoundsException, IllegalArgumentException {
        requireIndex(isSlot(slot));
        requireArgument(type == TYPE_FLOAT || type == TYPE_INT);
        requireArgument(length >= 0 && length <= ROW_LENGTH);
        rows[slot].makeNew(type, length);
    }

    public int export(int slot, int item) throws IndexOutOfBoundsException, IllegalStateException {
        requireIndex(isSlot(slot) && isItem(item));
        requireState(rows[slot].isUsed());
        Chain chain = bench.chains[item];
        rows[slot].takeValues(chain);
        requireIndex(rows[slot].length >= chain.count);
        return chain.count;
    }

    public float divide(int slot, int index, int divisor) throws IndexOutOfBoundsException, IllegalStateException,
            ArithmeticException, NoSuchElementException {
        requireIndex(isSlot(slot));
        requireState(rows[slot].isUsed());
        if (divisor == 0) {
            throw new ArithmeticException("the divisor is 0");
        }
        requireElement(index >= 0 && index < rows[slot].length);
        return rows[slot].quotient(index, divisor);
    }

    public int cloneRow(int source, int target) throws IndexOutOfBoundsException, IllegalStateException {
        requireIndex(isSlot(source) && isSlot(target));
        requireState(rows[source].isUsed());
        rows[target].becomeCopyOf(rows[source]);
        return rows[source].length;
    }

    public int copyRow(int source, int target) throws IndexOutOfBoundsException, IllegalStateException,
            IllegalArgumentException, NoSuchElementException {
        requireIndex(isSlot(source) && isSlot(target));
        requireState(rows[source].isUsed() && rows[target].isUsed());
        requireArgument(rows[source].type == rows[target].type);
        requireElement(rows[target].length >= rows[source].length);
        rows[target].takeElements(rows[source]);
        return rows[source].length;
    }

    // ---- snapshot

    public int snapshot() {
        saved.copyFrom(bench);
        hasSnapshot = true;
        return bench.transactionCount;
    }

    public int restore() throws IllegalStateException {
        requireState(hasSnapshot);
        bench.copyFrom(saved);
        return bench.transactionCount;
    }

    // ---- checks of arguments and states

    private boolean isTransaction(int number) {
        return number >= 0 && number < bench.transactionCount;
    }

    private static boolean isItem(int item) {
        return item >= 0 && item < ITEMS;
    }

    private static boolean isSlot(int slot) {
        return slot >= 0 && slot < SLOTS;
    }

    private void requireActiveWithRoom(int number, int more) {
        requireState(bench.transactions[number].state == STATE_ACTIVE);
        if (bench.transactions[number].operationCount + more > OPERATIONS) {
            throw new UnsupportedOperationException("the transaction cannot have more than 20 operations");
        }
    }

    private static void requireIndex(boolean holds) {
        if (!holds) {
            throw new IndexOutOfBoundsException("there is nothing with this number");
        }
    }

    private static void requireArgument(boolean holds) {
        if (!holds) {
            throw new IllegalArgumentException("an argument is not allowed");
        }
    }

    private static void requireState(boolean holds) {
        if (!holds) {
            throw new IllegalStateException("this cannot be done in the present state");
        }
    }

    private static void requireElement(boolean holds) {
        if (!holds) {
            throw new NoSuchElementException("there is no such element");
        }
    }

    /** All that a snapshot holds, and the protocols' rules. Its methods trust numbers that the face has checked. */
    private static final class Bench {
        int protocol;
        int nextTimestamp;
        int transactionCount;
        final Transaction[] transactions;
        final Chain[] chains;
        final EventLog events;
        final int[] serialValues;
        final int[] abortPath;

        Bench() {
            protocol = MULTIVERSION;
            nextTimestamp = 1;
            transactionCount = 0;
            transactions = new Transaction[TRANSACTIONS];
            for (int number = 0; number < TRANSACTIONS; number++) {
                transactions[number] = new Transaction();
            }
            chains = new Chain[ITEMS];
            for (int item = 0; item < ITEMS; item++) {
                chains[item] = new Chain();
            }
            events = new EventLog();
            serialValues = new int[ITEMS];
            abortPath = new int[TRANSACTIONS];
        }

        void startAnew(int newProtocol) {
            protocol = newProtocol;
            nextTimestamp = 1;
            transactionCount = 0;
            for (int item = 0; item < ITEMS; item++) {
                chains[item].keepFirstVersionOnly();
            }
            events.forgetAll();
        }

        void copyFrom(Bench other) {
            protocol = other.protocol;
            nextTimestamp = other.nextTimestamp;
            transactionCount = other.transactionCount;
            for (int number = 0; number < TRANSACTIONS; number++) {
                transactions[number].copyFrom(other.transactions[number]);
            }
            for (int item = 0; item < ITEMS; item++) {
                chains[item].copyFrom(other.chains[item]);
            }
            events.copyFrom(other.events);
        }

        int newTransaction(int priority) {
            int number = transactionCount;
            transactionCount++;
            transactions[number].start(priority, givenTimestamp());
            events.note(EVENT_BEGUN, number, NONE);
            return number;
        }

        private int givenTimestamp() {
            int timestamp = nextTimestamp;
            nextTimestamp++;
            return timestamp;
        }

        // ---- operations

        int ask(int number, int kind, int item, int operand) {
            int index = transactions[number].appendOperation(kind, item, operand);
            return perform(number, index);
        }

        /** Does an operation of the list. The answer ABORTED can be a value, too, so callers look at the state. */
        private int perform(int number, int index) {
            Transaction doer = transactions[number];
            int kind = doer.kinds[index];
            int item = doer.items[index];
            int value = 0;
            int answer = 0;
            if (kind != KIND_WRITE) {
                int version = readItem(number, item);
                if (version < 0) {
                    abortWithDependents(number, item);
                    return ABORTED;
                }
                value = chains[item].values[version];
                answer = value;
            }
            if (kind != KIND_READ) {
                int written = value + doer.operands[index];
                int obsolete = writeItem(number, item, written);
                if (obsolete < 0) {
                    abortWithDependents(number, item);
                    return ABORTED;
                }
                answer = kind == KIND_WRITE ? obsolete : written;
            }
            doer.results[index] = value;
            return answer;
        }

        /** Answers the index of the version that is read, or -1 if the read must abort the transaction. */
        private int readItem(int number, int item) {
            Transaction reader = transactions[number];
            Chain chain = chains[item];
            int index = chain.lastAtMost(reader.timestamp);
            boolean tooLate = protocol != MULTIVERSION && index != chain.count - 1;
            if (index < 0 || tooLate) {
                return NONE;
            }
            chain.raiseReadTime(index, reader.timestamp);
            int writer = chain.writers[index];
            if (writer != number && isUncommittedWriter(writer)) {
                reader.dependsOn |= 1 << writer;
            }
            events.note(EVENT_READ, number, item);
            return index;
        }

        /** Answers 1 if the write is done although obsolete, 0 if it is done, -1 if it must abort the transaction. */
        private int writeItem(int number, int item, int value) {
            int timestamp = transactions[number].timestamp;
            Chain chain = chains[item];
            boolean obsolete = protocol != MULTIVERSION && chain.lastAtMost(timestamp) != chain.count - 1;
            if (isReadTooLate(chain, timestamp) || (obsolete && protocol == BASIC)) {
                return NONE;
            }
            chain.putValue(timestamp, number, value);
            events.note(obsolete ? EVENT_WRITTEN_OBSOLETE : EVENT_WRITTEN, number, item);
            return obsolete ? 1 : 0;
        }

        private boolean isReadTooLate(Chain chain, int timestamp) {
            if (protocol != MULTIVERSION) {
                return chain.isAnyReadAfter(timestamp);
            }
            int index = chain.lastAtMost(timestamp);
            return index >= 0 && chain.readTimes[index] > timestamp;
        }

        int execute(int number, Program program) {
            Transaction doer = transactions[number];
            int asked = 0;
            while (asked < program.operationCount && doer.state == STATE_ACTIVE) {
                int index = doer.appendOperation(program.kinds[asked], program.items[asked], program.operands[asked]);
                perform(number, index);
                asked++;
            }
            if (doer.state == STATE_ACTIVE) {
                if (program.end == END_COMMIT) {
                    askCommit(number);
                } else if (program.end == END_ABORT) {
                    abortWithDependents(number, NONE);
                }
            }
            return asked;
        }

        // ---- commit, abort, restart

        boolean askCommit(int number) {
            if (transactions[number].dependsOn != 0) {
                transactions[number].state = STATE_PENDING;
                events.note(EVENT_PENDING, number, NONE);
                return false;
            }
            int next = number;
            for (int round = 0; round < TRANSACTIONS && next >= 0; round++) {
                finishCommit(next);
                next = nextPendingToCommit();
            }
            return true;
        }

        private void finishCommit(int number) {
            transactions[number].state = STATE_COMMITTED;
            for (int other = 0; other < transactionCount; other++) {
                transactions[other].dependsOn &= ~(1 << number);
            }
            events.note(EVENT_COMMITTED, number, NONE);
        }

        private int nextPendingToCommit() {
            int found = NONE;
            for (int number = 0; number < transactionCount; number++) {
                Transaction candidate = transactions[number];
                if (candidate.state == STATE_PENDING && candidate.dependsOn == 0
                        && (found < 0 || candidate.timestamp < transactions[found].timestamp)) {
                    found = number;
                }
            }
            return found;
        }

        /** Answers how many are aborted. The path leads from the first one to the one whose dependents fall now. */
        int abortWithDependents(int number, int item) {
            abortOne(number, EVENT_ABORTED, item);
            int aborted = 1;
            int depth = 1;
            abortPath[0] = number;
            // Each step aborts one or goes back by one: at most two steps for each transaction.
            for (int step = 0; step < 2 * TRANSACTIONS && depth > 0; step++) {
                int next = firstDependentOn(abortPath[depth - 1]);
                if (next >= 0 && depth < TRANSACTIONS) {
                    abortOne(next, EVENT_CASCADED, NONE);
                    aborted++;
                    abortPath[depth] = next;
                    depth++;
                } else {
                    depth--;
                }
            }
            return aborted;
        }

        private void abortOne(int number, int eventKind, int item) {
            for (int chained = 0; chained < ITEMS; chained++) {
                chains[chained].removeVersionOf(number, transactions[number].timestamp);
            }
            transactions[number].endByAbort();
            events.note(eventKind, number, item);
        }

        /** Those before it are aborted already, so the order is that of the numbers. */
        private int firstDependentOn(int number) {
            for (int other = 0; other < transactionCount; other++) {
                if (transactions[other].isUncommitted() && (transactions[other].dependsOn & (1 << number)) != 0) {
                    return other;
                }
            }
            return NONE;
        }

        int nextToRestart() {
            int found = NONE;
            for (int number = 0; number < transactionCount; number++) {
                if (transactions[number].state == STATE_ABORTED
                        && (found < 0 || transactions[number].goesBefore(transactions[found]))) {
                    found = number;
                }
            }
            return found;
        }

        void restartTransaction(int number) {
            Transaction doer = transactions[number];
            doer.timestamp = givenTimestamp();
            doer.state = STATE_ACTIVE;
            events.note(EVENT_RESTARTED, number, NONE);
            for (int index = 0; index < doer.operationCount && doer.state == STATE_ACTIVE; index++) {
                perform(number, index);
            }
        }

        int transactionsAbortedWith(int number) {
            if (!transactions[number].isUncommitted()) {
                return 0;
            }
            int mask = 1 << number;
            // Each round but the last finds one more transaction at least.
            for (int round = 0; round < TRANSACTIONS; round++) {
                for (int other = 0; other < transactionCount; other++) {
                    if (transactions[other].isUncommitted() && (transactions[other].dependsOn & mask) != 0) {
                        mask |= 1 << other;
                    }
                }
            }
            return mask;
        }

        // ---- versions

        boolean isUncommittedWriter(int writer) {
            return writer >= 0 && writer < transactionCount && transactions[writer].isUncommitted();
        }

        int lastCommittedAtMost(Chain chain, int timestamp) {
            int index = chain.lastAtMost(timestamp);
            while (index >= 0 && isUncommittedWriter(chain.writers[index])) {
                index--;
            }
            return index;
        }

        int lowestNeededTimestamp() {
            int lowest = nextTimestamp;
            for (int number = 0; number < transactionCount; number++) {
                if (transactions[number].isUncommitted()) {
                    lowest = Math.min(lowest, transactions[number].timestamp);
                }
            }
            return lowest;
        }

        int removeOldVersions() {
            int limit = lowestNeededTimestamp();
            int removed = 0;
            for (int item = 0; item < ITEMS; item++) {
                int kept = lastCommittedAtMost(chains[item], limit);
                if (kept > 0) {
                    chains[item].removeFirst(kept);
                    removed += kept;
                }
            }
            return removed;
        }

        // ---- serial execution

        int serialDifferences() {
            for (int item = 0; item < ITEMS; item++) {
                serialValues[item] = 0;
            }
            int differences = 0;
            int next = nextCommittedAfter(0);
            for (int round = 0; round < TRANSACTIONS && next >= 0; round++) {
                differences += transactions[next].executeSerially(serialValues);
                next = nextCommittedAfter(transactions[next].timestamp);
            }
            for (int item = 0; item < ITEMS; item++) {
                int last = lastCommittedAtMost(chains[item], Integer.MAX_VALUE);
                if (last >= 0 && chains[item].values[last] != serialValues[item]) {
                    differences++;
                }
            }
            return differences;
        }

        private int nextCommittedAfter(int timestamp) {
            int found = NONE;
            for (int number = 0; number < transactionCount; number++) {
                Transaction candidate = transactions[number];
                if (candidate.state == STATE_COMMITTED && candidate.timestamp > timestamp
                        && (found < 0 || candidate.timestamp < transactions[found].timestamp)) {
                    found = number;
                }
            }
            return found;
        }
    }

    private static final class Transaction {
        int state;
        int timestamp;
        int priority;
        int aborts;
        /** A bit for each uncommitted transaction on which this one depends. */
        int dependsOn;
        int operationCount;
        final int[] kinds = new int[OPERATIONS];
        final int[] items = new int[OPERATIONS];
        final int[] operands = new int[OPERATIONS];
        final int[] results = new int[OPERATIONS];

        void start(int newPriority, int newTimestamp) {
            state = STATE_ACTIVE;
            timestamp = newTimestamp;
            priority = newPriority;
            aborts = 0;
            dependsOn = 0;
            operationCount = 0;
        }

        void copyFrom(Transaction other) {
            state = other.state;
            timestamp = other.timestamp;
            priority = other.priority;
            aborts = other.aborts;
            dependsOn = other.dependsOn;
            operationCount = other.operationCount;
            System.arraycopy(other.kinds, 0, kinds, 0, OPERATIONS);
            System.arraycopy(other.items, 0, items, 0, OPERATIONS);
            System.arraycopy(other.operands, 0, operands, 0, OPERATIONS);
            System.arraycopy(other.results, 0, results, 0, OPERATIONS);
        }

        boolean isUncommitted() {
            return state == STATE_ACTIVE || state == STATE_PENDING;
        }

        int appendOperation(int kind, int item, int operand) {
            int index = operationCount;
            kinds[index] = kind;
            items[index] = item;
            operands[index] = operand;
            results[index] = 0;
            operationCount++;
            return index;
        }

        void endByAbort() {
            state = STATE_ABORTED;
            dependsOn = 0;
            aborts++;
        }

        /** Equal ones are left in the order of their numbers, so this is strict. */
        boolean goesBefore(Transaction other) {
            if (priority != other.priority) {
                return priority > other.priority;
            }
            return aborts > other.aborts;
        }

        int property(int what) {
            switch (what) {
                case 0:
                    return state;
                case 1:
                    return timestamp;
                case 2:
                    return priority;
                case 3:
                    return aborts;
                default:
                    return operationCount;
            }
        }

        int operationNumber(int index, int what) {
            switch (what) {
                case 0:
                    return kinds[index];
                case 1:
                    return items[index];
                case 2:
                    return operands[index];
                default:
                    return results[index];
            }
        }

        /** Changes the values as the operations do, and answers how many read something else than before. */
        int executeSerially(int[] values) {
            int differences = 0;
            for (int index = 0; index < operationCount; index++) {
                int item = items[index];
                if (kinds[index] != KIND_WRITE && results[index] != values[item]) {
                    differences++;
                }
                if (kinds[index] == KIND_WRITE) {
                    values[item] = operands[index];
                } else if (kinds[index] == KIND_ADDITION) {
                    values[item] += operands[index];
                }
            }
            return differences;
        }
    }

    /** The versions of an item, in ascending order of their write timestamps; there is always one. */
    private static final class Chain {
        int count;
        final int[] writeTimes = new int[VERSIONS];
        final int[] readTimes = new int[VERSIONS];
        final int[] values = new int[VERSIONS];
        final int[] writers = new int[VERSIONS];

        Chain() {
            count = 1;
            writers[0] = NONE;
        }

        void keepFirstVersionOnly() {
            count = 1;
            writeTimes[0] = 0;
            readTimes[0] = 0;
            values[0] = 0;
            writers[0] = NONE;
        }

        void copyFrom(Chain other) {
            count = other.count;
            System.arraycopy(other.writeTimes, 0, writeTimes, 0, VERSIONS);
            System.arraycopy(other.readTimes, 0, readTimes, 0, VERSIONS);
            System.arraycopy(other.values, 0, values, 0, VERSIONS);
            System.arraycopy(other.writers, 0, writers, 0, VERSIONS);
        }

        /** The index of the version with the greatest write timestamp that is at most the given one, or -1. */
        int lastAtMost(int timestamp) {
            int index = count - 1;
            while (index >= 0 && writeTimes[index] > timestamp) {
                index--;
            }
            return index;
        }

        boolean isAnyReadAfter(int timestamp) {
            for (int index = 0; index < count; index++) {
                if (readTimes[index] > timestamp) {
                    return true;
                }
            }
            return false;
        }

        void raiseReadTime(int index, int timestamp) {
            if (readTimes[index] < timestamp) {
                readTimes[index] = timestamp;
            }
        }

        void putValue(int timestamp, int writer, int value) {
            int index = lastAtMost(timestamp);
            if (index >= 0 && writeTimes[index] == timestamp) {
                values[index] = value;
            } else if (count < VERSIONS) {
                shift(index + 1, index + 2);
                writeTimes[index + 1] = timestamp;
                readTimes[index + 1] = 0;
                values[index + 1] = value;
                writers[index + 1] = writer;
            }
        }

        void removeVersionOf(int writer, int timestamp) {
            int index = lastAtMost(timestamp);
            if (index >= 0 && writers[index] == writer) {
                shift(index + 1, index);
            }
        }

        void removeFirst(int number) {
            shift(number, 0);
        }

        /** Moves all versions from an index on to another index, which leaves or closes a gap. */
        private void shift(int from, int to) {
            int moved = count - from;
            System.arraycopy(writeTimes, from, writeTimes, to, moved);
            System.arraycopy(readTimes, from, readTimes, to, moved);
            System.arraycopy(values, from, values, to, moved);
            System.arraycopy(writers, from, writers, to, moved);
            count = to + moved;
        }

        int versionNumber(int index, int what) {
            switch (what) {
                case 0:
                    return writeTimes[index];
                case 1:
                    return readTimes[index];
                case 2:
                    return values[index];
                default:
                    return writers[index];
            }
        }
    }

    /** The latest events, in a ring, and how many there were of each kind. */
    private static final class EventLog {
        int oldest;
        int count;
        final int[] kinds = new int[EVENTS];
        final int[] transactions = new int[EVENTS];
        final int[] items = new int[EVENTS];
        final int[] totals = new int[EVENT_KINDS];

        void forgetAll() {
            oldest = 0;
            count = 0;
            for (int kind = 0; kind < EVENT_KINDS; kind++) {
                totals[kind] = 0;
            }
        }

        void copyFrom(EventLog other) {
            oldest = other.oldest;
            count = other.count;
            System.arraycopy(other.kinds, 0, kinds, 0, EVENTS);
            System.arraycopy(other.transactions, 0, transactions, 0, EVENTS);
            System.arraycopy(other.items, 0, items, 0, EVENTS);
            System.arraycopy(other.totals, 0, totals, 0, EVENT_KINDS);
        }

        void note(int kind, int transaction, int item) {
            int place = (oldest + count) % EVENTS;
            kinds[place] = kind;
            transactions[place] = transaction;
            items[place] = item;
            totals[kind]++;
            if (count < EVENTS) {
                count++;
            } else {
                oldest = (oldest + 1) % EVENTS;
            }
        }

        int column(int index, int column) {
            int place = (oldest + index) % EVENTS;
            switch (column) {
                case 0:
                    return kinds[place];
                case 1:
                    return transactions[place];
                default:
                    return items[place];
            }
        }
    }

    /** The input buffer, and what was found in it when it was parsed last. */
    private static final class Program {
        int length;
        final char[] text = new char[TEXT_LENGTH];
        int operationCount;
        final int[] kinds = new int[OPERATIONS_IN_TEXT];
        final int[] items = new int[OPERATIONS_IN_TEXT];
        final int[] operands = new int[OPERATIONS_IN_TEXT];
        int end;
        private int position;

        /** Answers the error position, or -1 if the text is a program. */
        int parse() {
            operationCount = 0;
            end = END_NONE;
            position = 0;
            if (length == 0) {
                return NONE;
            }
            for (int part = 0; part < TEXT_LENGTH; part++) {
                if (!takePart()) {
                    return position;
                }
                if (position == length) {
                    return NONE;
                }
                if (end != END_NONE || !takeSign(' ')) {
                    return position;
                }
            }
            return position;
        }

        /** Like all that takes: where it fails, the position is that of the error. */
        private boolean takePart() {
            if (takeSign('c')) {
                end = END_COMMIT;
                return true;
            }
            if (takeSign('x')) {
                end = END_ABORT;
                return true;
            }
            if (takeSign('r')) {
                int item = takeItem();
                return item >= 0 && keepOperation(KIND_READ, item, 0);
            }
            if (takeSign('w')) {
                return takeWrite();
            }
            return takeSign('a') && takeAddition();
        }

        private boolean takeWrite() {
            int item = takeItem();
            if (item < 0 || !takeSign('=')) {
                return false;
            }
            boolean negative = takeSign('-');
            int number = takeNumber();
            return number >= 0 && keepOperation(KIND_WRITE, item, negative ? -number : number);
        }

        private boolean takeAddition() {
            int item = takeItem();
            if (item < 0) {
                return false;
            }
            boolean negative = takeSign('-');
            if (!negative && !takeSign('+')) {
                return false;
            }
            int number = takeNumber();
            return number >= 0 && keepOperation(KIND_ADDITION, item, negative ? -number : number);
        }

        private boolean keepOperation(int kind, int item, int operand) {
            if (operationCount >= OPERATIONS_IN_TEXT) {
                return false;
            }
            kinds[operationCount] = kind;
            items[operationCount] = item;
            operands[operationCount] = operand;
            operationCount++;
            return true;
        }

        private boolean takeSign(char sign) {
            if (position < length && text[position] == sign) {
                position++;
                return true;
            }
            return false;
        }

        /** Answers -1 if there is no item. */
        private int takeItem() {
            int item = digitHere();
            if (item < 0 || item >= ITEMS) {
                return NONE;
            }
            position++;
            return item;
        }

        /** Answers -1 if there is no number. */
        private int takeNumber() {
            int number = digitHere();
            if (number < 0) {
                return NONE;
            }
            position++;
            for (int digits = 1; digits < LONGEST_NUMBER && digitHere() >= 0; digits++) {
                number = 10 * number + digitHere();
                position++;
            }
            return number;
        }

        private int digitHere() {
            if (position < length && text[position] >= '0' && text[position] <= '9') {
                return text[position] - '0';
            }
            return NONE;
        }
    }

    /** A slot for a row. It has elements of both types, of which the type says the ones in use. */
    private static final class Row {
        int type = NONE;
        int length;
        private final float[] floats = new float[ROW_LENGTH];
        private final int[] ints = new int[ROW_LENGTH];

        boolean isUsed() {
            return type != NONE;
        }

        void makeNew(int newType, int newLength) {
            type = newType;
            length = newLength;
            for (int index = 0; index < ROW_LENGTH; index++) {
                floats[index] = 0;
                ints[index] = 0;
            }
        }

        void takeValues(Chain chain) {
            for (int index = 0; index < length && index < chain.count; index++) {
                floats[index] = (float) chain.values[index];
                ints[index] = chain.values[index];
            }
        }

        float quotient(int index, int divisor) {
            if (type == TYPE_FLOAT) {
                floats[index] = floats[index] / (float) divisor;
                return floats[index];
            }
            ints[index] = ints[index] / divisor;
            return (float) ints[index];
        }

        void becomeCopyOf(Row other) {
            type = other.type;
            length = other.length;
            takeElements(other);
        }

        void takeElements(Row other) {
            System.arraycopy(other.floats, 0, floats, 0, other.length);
            System.arraycopy(other.ints, 0, ints, 0, other.length);
        }
    }
}
