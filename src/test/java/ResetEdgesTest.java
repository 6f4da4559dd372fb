/** The boundary cases of reset: whatever an object was used for, it is then like a new one, but for what the document lets stay. */
public final class ResetEdgesTest {
    private static final String TWENTY = "r0 r1 r2 r3 r4 r5 r6 r7 r0 r1 r2 r3 r4 r5 r6 r7 r0 r1 r2 r3";

    public static void main(String[] args) {
        likeNew();
        eachItem();
        eachTransaction();
        whatStays();
        refused();
        Script.end();
    }

    /** All is full: 16 transactions, 20 operations, 17 versions, 50 events. */
    private static String full() {
        return Script.numbered(0, 9, "begin(%1$d): %1$d; ") + Script.numbered(10, 15, "begin(8): %1$d; ")
                + Script.numbered(0, 15, "add(%1$d, 0, 3): _; add(%1$d, 7, 5): _; read(%1$d, 3): _; ") + "text('"
                + TWENTY.substring(0, 50) + "'): 50; run(15): 17; ";
    }

    private static void likeNew() {
        for (int protocol = 0; protocol < 3; protocol++) {
            expectLikeNew("full", full(), protocol);
            expectLikeNew("full, with aborts and restarts", full() + "abort(0): 16; restartNext(): _; restartNext(): _; "
                    + "commit(15): _; ", protocol);
            expectLikeNew("committed and collected", full() + Script.numbered(0, 15, "commit(%1$d): true; ") + "collect(): 32; ", protocol);
            expectLikeNew("reset before", full() + "reset(0): 2; begin(0): 0; write(0, 5, 1): 0; ", protocol);
            expectLikeNew("new", "", protocol);
        }
    }

    private static void expectLikeNew(String name, String used, int protocol) {
        String more = "begin(2): 0; begin(1): 1; begin(0): 2; write(0, 0, 4): 0; write(1, 1, 5): 0; read(2, 0): _; read(2, 1): _; "
                + "read(1, 2): 0; write(0, 2, 1): ABORTED; add(0, 2, 1): !IllegalState; commit(1): true; ";
        TimestampScheduler bench = new TimestampScheduler();
        Script.checkOn(bench, name, used, "reset(" + protocol + "): _; ");
        TimestampScheduler fresh = new TimestampScheduler();
        Script.checkOn(fresh, name, "reset(" + protocol + "): 2; ");
        Script.expect("Starts anew with protocol " + protocol + ", " + name, Portrait.of(bench).equals(Portrait.of(fresh)));
        Script.checkOn(bench, name, more);
        Script.checkOn(fresh, name, more);
        Script.expect("what is done behind a reset is as on a new object, " + name, Portrait.last(bench).equals(Portrait.last(fresh)));
    }

    private static void eachItem() {
        for (int item = 0; item < 8; item++) {
            Script.check("all items have only their first versions: item " + item, """
                    begin(0): 0; write(0, I, 5): 0; commit(0): true; collect(): 1; begin(0): 1; read(1, I): 5; version(I, 0, 0): 1;
                    version(I, 0, 1): 2; version(I, 0, 2): 5; version(I, 0, 3): 0; reset(2): 2; versionCount(I): 1; version(I, 0, 0): 0;
                    version(I, 0, 1): 0; version(I, 0, 2): 0;
                    version(I, 0, 3): -1; version(I, 0, 4): 1; valueAt(I, 0): 0""".replace("I,", item + ",").replace("I)", item + ")"));
        }
    }

    private static void eachTransaction() {
        Script.check("there are no transactions and events, and all statistics are 0", full(), "abort(0): 16; restartNext(): 9; "
                + "reset(2): 2; transactionCount(): 0; eventCount(): 0; horizon(): 1; abortShare(): !Arithmetic;",
                Script.numbered(0, 8, "total(%1$d): 0; "), Script.numbered(0, 15, "transaction(%1$d, 0): !IndexOutOfBounds; "),
                "restartNext(): !NoSuchElement; event(0, 0): !IndexOutOfBounds");
        Script.check("the transactions begun behind it have no aborts, dependencies, operations and results of the earlier ones", full(),
                "abort(0): 16;" + Script.numbered(0, 15, "restartNext(): _; "), "reset(0): 2;",
                Script.numbered(0, 15, "begin(0): %1$d; transaction(%1$d, 3): 0; transaction(%1$d, 4): 0; dependencies(%1$d): 0; "
                + "cascade(%1$d): _; operation(%1$d, 0, 0): !IndexOutOfBounds; "),
                "write(15, 0, 1): 0; read(1, 0): ABORTED; operation(1, 0, 3): 0; add(0, 0, 1): ABORTED; operation(0, 0, 3): 0");
    }

    private static void whatStays() {
        Script.check("The input buffer stays", "text('w0=1 '): 5; reset(1): 2; text('c'): 6; begin(0): 0; run(0): 1; transaction(0, 0): 2; "
                + "valueAt(0, 1): 1");
        Script.check("The error position stays", "begin(0): 0; text('r0q'): 3; run(0): !IllegalArgument; reset(1): 2; errorPosition(): 2; "
                + "reset(2): 1; errorPosition(): 2");
        Script.check("The rows stay", "begin(0): 0; write(0, 0, 5): 0; allocate(0, 1, 2): nothing; allocate(2, 0, 30): nothing; "
                + "export(0, 0): 2; reset(0): 2; divide(0, 1, 1): 5.0; cloneRow(2, 2): 30; cloneRow(1, 1): !IllegalState");
        Script.check("The snapshot stays", "begin(7): 0; write(0, 0, 5): 0; snapshot(): 1; reset(0): 2; reset(1): 0; restore(): 1; "
                + "transaction(0, 2): 7; version(0, 1, 2): 5; reset(0): 2");
        Script.check("Returns the previous protocol, also of a restored one", "reset(1): 2; snapshot(): 0; reset(0): 1; restore(): 0; "
                + "reset(2): 1; reset(2): 2");
    }

    private static void refused() {
        Script.refused("the protocol is out of range", full() + "text('r1'): 2; snapshot(): 16; allocate(0, 1, 3): nothing",
                "reset(-1): !IllegalArgument; reset(3): !IllegalArgument; reset(MIN): !IllegalArgument; reset(MAX): !IllegalArgument");
    }
}
