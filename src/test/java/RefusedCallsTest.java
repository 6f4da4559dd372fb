/**
 * "If a method can throw several exceptions, they are checked in the order in which they are listed", and "A call that
 * throws an exception leaves the state unchanged": for each method, calls that deserve two exceptions or more.
 */
public final class RefusedCallsTest {
    private static final String TWENTY = "r0 r0 r0 r0 r0 r0 r0 r0 r0 r0 r0 r0 r0 r0 r0 r0 r0 r0 r0 r0";
    /** 0 is active, 1 pending, 2 committed and 3 aborted, each with 20 operations; 4 is active with none. */
    private static final String ALL_STATES = Script.numbered(0, 4, "begin(%1$d): %1$d; ") + "write(0, 0, 5): 0; "
            + "read(0, 1): 0; ".repeat(19)
            + runs(1, TWENTY) + runs(2, TWENTY.replace('0', '2')) + runs(3, TWENTY.replace('0', '3')) + "commit(1): false; "
            + "commit(2): true; abort(3): 1; snapshot(): 5; ";

    public static void main(String[] args) {
        states();
        begin();
        operations();
        commitAndAbort();
        append();
        run();
        questions();
        rows();
        Script.end();
    }

    private static String runs(int transaction, String text) {
        return "text('" + text + "'): " + text.length() + "; run(" + transaction + "): _; ";
    }

    private static void states() {
        Script.check("the states that the tests below want", ALL_STATES, """
                transaction(0, 0): 0; transaction(1, 0): 1; transaction(2, 0): 2; transaction(3, 0): 3; transaction(4, 0): 0;
                transaction(0, 4): 20;
                transaction(1, 4): 20; transaction(2, 4): 20; transaction(3, 4): 20; transaction(4, 4): 0; transactionCount(): 5""");
    }

    private static void begin() {
        Script.refused("begin: priority, then number of transactions", Script.numbered(0, 15, "begin(9): %1$d; "), """
                begin(-1): !IllegalArgument; begin(10): !IllegalArgument; begin(MIN): !IllegalArgument; begin(MAX): !IllegalArgument;
                begin(0): !IllegalState; begin(9): !IllegalState""");
    }

    private static void operations() {
        for (String call : new String[] {"read(%s, %s)", "write(%s, %s, 1)", "add(%s, %s, 1)"}) {
            refusedOperation(call, "!IndexOutOfBounds", new String[] {"-1", "5", "16", "MIN", "MAX"}, new String[] {"0", "7", "-1", "8"});
            refusedOperation(call, "!IndexOutOfBounds", new String[] {"0", "1", "2", "3", "4"}, new String[] {"-1", "8", "MIN", "MAX"});
            refusedOperation(call, "!IllegalState", new String[] {"1", "2", "3"}, new String[] {"0", "7"});
            refusedOperation(call, "!UnsupportedOperation", new String[] {"0"}, new String[] {"0", "7"});
        }
    }

    private static void refusedOperation(String call, String due, String[] transactions, String[] items) {
        StringBuilder calls = new StringBuilder();
        for (String transaction : transactions) {
            for (String item : items) {
                calls.append(call.formatted(transaction, item)).append(": ").append(due).append("; ");
            }
        }
        Script.refused(call + " " + due, ALL_STATES, calls.toString());
    }

    private static void commitAndAbort() {
        Script.refused("commit", ALL_STATES, """
                commit(-1): !IndexOutOfBounds; commit(5): !IndexOutOfBounds; commit(16): !IndexOutOfBounds; commit(MIN): !IndexOutOfBounds;
                commit(MAX): !IndexOutOfBounds;
                commit(1): !IllegalState; commit(2): !IllegalState; commit(3): !IllegalState""");
        Script.refused("abort", ALL_STATES, """
                abort(-1): !IndexOutOfBounds; abort(5): !IndexOutOfBounds; abort(16): !IndexOutOfBounds; abort(MIN): !IndexOutOfBounds;
                abort(MAX): !IndexOutOfBounds;
                abort(2): !IllegalState; abort(3): !IllegalState""");
        Script.check("abort is allowed for active and pending ones, on both sides", ALL_STATES, "abort(1): 1; abort(1): !IllegalState; "
                + "abort(4): 1; abort(0): 1; abort(0): !IllegalState");
        Script.refused("restartNext, reset, restore and errorPosition", "begin(0): 0", "restartNext(): !NoSuchElement; "
                + "reset(3): !IllegalArgument; reset(-1): !IllegalArgument; restore(): !IllegalState; errorPosition(): !NoSuchElement");
    }

    private static void append() {
        String full = "text('" + TWENTY + " '): 60; ";
        Script.refused("append: code, then room", full, "append(31): !IllegalArgument; append(127): !IllegalArgument; "
                + "append(0): !IllegalArgument; append(65535): !IllegalArgument; append(32): !IllegalState; append(126): !IllegalState");
    }

    private static void run() {
        Script.refused("run: transaction, then state, before the text", ALL_STATES + "text('q'): 1", """
                run(-1): !IndexOutOfBounds; run(5): !IndexOutOfBounds; run(16): !IndexOutOfBounds; run(1): !IllegalState;
                run(2): !IllegalState; run(3): !IllegalState;
                errorPosition(): !NoSuchElement""");
        Script.check("run: the text before the number of operations", ALL_STATES, "text('r0q'): 3; run(0): !IllegalArgument; "
                + "errorPosition(): 2; text('r0'): 2; run(0): !UnsupportedOperation; errorPosition(): 2; append(32): 1");
        TimestampScheduler bench = new TimestampScheduler();
        Script.checkOn(bench, "run", ALL_STATES, "text('r0'): 2; run(0): !UnsupportedOperation;");
        TimestampScheduler twin = new TimestampScheduler();
        Script.checkOn(twin, "run", ALL_STATES);
        Script.expect("run: too many operations change nothing but the buffer", Portrait.last(bench).equals(Portrait.last(twin)));
    }

    private static void questions() {
        Script.refused("transaction, operation and version: index, then what", ALL_STATES, """
                transaction(5, 5): !IndexOutOfBounds; transaction(-1, -1): !IndexOutOfBounds; transaction(4, 5): !IllegalArgument;
                transaction(4, -1): !IllegalArgument;
                operation(5, 0, 4): !IndexOutOfBounds; operation(-1, 0, -1): !IndexOutOfBounds; operation(0, 20, 4): !IndexOutOfBounds;
                operation(0, -1, -1): !IndexOutOfBounds;
                operation(4, 0, 9): !IndexOutOfBounds; operation(0, 19, 4): !IllegalArgument; operation(0, 0, -1): !IllegalArgument;
                version(8, 0, 5): !IndexOutOfBounds; version(-1, 0, -1): !IndexOutOfBounds; version(0, 2, 5): !IndexOutOfBounds;
                version(0, -1, -1): !IndexOutOfBounds;
                version(0, 1, 5): !IllegalArgument; version(0, 1, -1): !IllegalArgument""");
        Script.refused("valueAt: item, then version", ALL_STATES, "valueAt(8, -1): !IndexOutOfBounds; valueAt(-1, MIN): !IndexOutOfBounds; "
                + "valueAt(7, -1): !NoSuchElement; valueAt(0, MIN): !NoSuchElement");
        Script.refused("event and total", ALL_STATES, "event(50, 0): !IndexOutOfBounds; event(0, 3): !IndexOutOfBounds; "
                + "event(50, 3): !IndexOutOfBounds; total(9): !IllegalArgument; total(-1): !IllegalArgument");
    }

    private static void rows() {
        String rows = "allocate(0, 0, 2): nothing; allocate(1, 1, 1): nothing; begin(0): 0; write(0, 0, 3): 0; export(0, 0): 2; ";
        Script.refused("allocate: slot, then type and length", rows, "allocate(3, 2, 31): !IndexOutOfBounds; "
                + "allocate(-1, -1, -1): !IndexOutOfBounds; allocate(0, 2, 31): !IllegalArgument; allocate(0, 1, 31): !IllegalArgument; "
                + "allocate(0, -1, 5): !IllegalArgument");
        Script.refused("export: slot and item, then the empty slot", rows, "export(3, 8): !IndexOutOfBounds; "
                + "export(2, 8): !IndexOutOfBounds; export(2, -1): !IndexOutOfBounds; export(2, 0): !IllegalState");
        Script.refused("divide: slot, empty slot, divisor, index", rows, """
                divide(3, 5, 0): !IndexOutOfBounds; divide(-1, -1, 0): !IndexOutOfBounds; divide(2, 5, 0): !IllegalState;
                divide(2, 0, 1): !IllegalState; divide(0, 5, 0): !Arithmetic;
                divide(1, -1, 0): !Arithmetic; divide(0, 2, 1): !NoSuchElement; divide(1, 1, 1): !NoSuchElement;
                divide(0, -1, 1): !NoSuchElement""");
        Script.refused("cloneRow: slots, then the empty slot", rows, "cloneRow(2, 3): !IndexOutOfBounds; "
                + "cloneRow(3, 2): !IndexOutOfBounds; cloneRow(2, -1): !IndexOutOfBounds; cloneRow(2, 0): !IllegalState");
        Script.refused("copyRow: slots, empty slots, types, lengths", rows, """
                copyRow(2, 3): !IndexOutOfBounds; copyRow(3, 2): !IndexOutOfBounds; copyRow(2, 0): !IllegalState;
                copyRow(0, 2): !IllegalState; copyRow(0, 1): !IllegalArgument;
                copyRow(1, 0): !IllegalArgument""");
    }
}
