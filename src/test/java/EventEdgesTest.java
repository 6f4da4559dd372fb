/** The boundary cases of events and statistics, of the questions about transactions and items, and of an object's 512 calls. */
public final class EventEdgesTest {
    private static final String SIXTEEN = Script.numbered(0, 15, "begin(3): %1$d; ");

    public static void main(String[] args) {
        latestFifty();
        kindsAndItems();
        totals();
        abortShare();
        transactionProperties();
        masks();
        operationNumbers();
        versionNumbers();
        valueAt();
        check();
        fiveHundredAndTwelveCalls();
        Script.end();
    }

    private static void latestFifty() {
        Script.check("no event", "eventCount(): 0; event(0, 0): !IndexOutOfBounds; event(-1, 0): !IndexOutOfBounds; "
                + "event(49, 0): !IndexOutOfBounds");
        String fortyNine = SIXTEEN + Script.numbered(0, 15, "read(%1$d, 1): 0; ") + Script.numbered(0, 15, "read(%1$d, 2): 0; ")
                + "read(0, 3): 0; ";
        Script.check("The latest 50 events are recorded: 49", fortyNine, "eventCount(): 49; event(0, 0): 0; event(48, 2): 3; "
                + "event(49, 0): !IndexOutOfBounds");
        Script.check("The latest 50 events are recorded: 50", fortyNine, "read(1, 4): 0; eventCount(): 50; event(0, 0): 0; event(0, 1): 0; "
                + "event(49, 2): 4; event(50, 0): !IndexOutOfBounds");
        Script.check("The latest 50 events are recorded: the first is gone at 51", fortyNine, """
                read(1, 4): 0; read(2, 5): 0; eventCount(): 50; event(0, 0): 0; event(0, 1): 1; event(48, 2): 4; event(49, 1): 2;
                event(49, 2): 5;
                event(50, 0): !IndexOutOfBounds; total(0): 16; total(1): 35""");
        Script.check("The latest 50 events are recorded: 100, 101 and 150", fortyNine, "read(1, 4): 0;", Script.numbered(0, 15,
                "read(%1$d, 5): 0; "), Script.numbered(0, 15, "read(%1$d, 6): 0; "),
                Script.numbered(0, 15, "read(%1$d, 7): 0; "), "read(8, 0): 0; read(9, 0): 0; eventCount(): 50; event(0, 2): 5; "
                + "event(0, 1): 0; event(16, 2): 6; event(48, 1): 8; event(49, 1): 9; read(10, 0): 0; event(0, 1): 1; event(49, 1): 10; "
                + "event(49, 2): 0;",
                Script.numbered(0, 15, "commit(%1$d): true; "), Script.numbered(0, 15, "event(%1$d, 0): 1; "), "event(33, 1): 10; "
                + "event(34, 0): 5; event(34, 1): 0; event(49, 1): 15; event(49, 2): -1; eventCount(): 50; total(5): 16");
        Script.check("a restart of 20 additions records 41 events", "begin(0): 0; " + "add(0, 0, 1): _; ".repeat(20) + "begin(0): 1; "
                + "add(1, 1, 1): _; ".repeat(20), """
                abort(0): 1; abort(1): 1; restartNext(): 0; event(9, 0): 8; event(9, 1): 0; restartNext(): 1; event(9, 0): 8;
                event(9, 1): 1; event(8, 0): 2; event(8, 1): 0;
                eventCount(): 50; total(1): 80; total(2): 80""");
        Script.check("reset leaves no events", fortyNine, "read(1, 4): 0; read(2, 5): 0; reset(2): 2; eventCount(): 0; "
                + "event(0, 0): !IndexOutOfBounds; begin(0): 0; eventCount(): 1; event(0, 0): 0; event(0, 1): 0; "
                + "event(1, 0): !IndexOutOfBounds");
    }

    private static void kindsAndItems() {
        Script.check("The kinds and the items of events", """
                reset(1): 2; begin(0): 0; begin(0): 1; begin(9): 2; write(1, 7, 4): 0; write(0, 7, 3): 1; read(2, 7): 4; add(1, 6, 2): 2;
                commit(2): false; read(0, 7): ABORTED;
                abort(1): 2; restartNext(): 2; commit(2): true; eventCount(): 15;
                event(0, 0): 0; event(0, 1): 0; event(0, 2): -1; event(3, 0): 2; event(3, 1): 1; event(3, 2): 7; event(4, 0): 3;
                event(4, 1): 0; event(4, 2): 7;
                event(5, 0): 1; event(5, 1): 2; event(5, 2): 7; event(6, 0): 1; event(6, 1): 1; event(6, 2): 6; event(7, 0): 2;
                event(7, 1): 1; event(7, 2): 6;
                event(8, 0): 4; event(8, 1): 2; event(8, 2): -1; event(9, 0): 6; event(9, 1): 0; event(9, 2): 7; event(10, 0): 6;
                event(10, 1): 1; event(10, 2): -1;
                event(11, 0): 7; event(11, 1): 2; event(11, 2): -1; event(12, 0): 8; event(12, 1): 2; event(12, 2): -1; event(13, 0): 1;
                event(13, 1): 2; event(13, 2): 7;
                event(14, 0): 5; event(14, 1): 2; event(14, 2): -1""");
        Script.refused("there is no such event or column", "begin(0): 0; read(0, 5): 0", """
                event(2, 0): !IndexOutOfBounds; event(-1, 0): !IndexOutOfBounds; event(MIN, 0): !IndexOutOfBounds;
                event(MAX, 0): !IndexOutOfBounds;
                event(0, -1): !IndexOutOfBounds; event(0, 3): !IndexOutOfBounds; event(0, MIN): !IndexOutOfBounds;
                event(0, MAX): !IndexOutOfBounds;
                event(2, 3): !IndexOutOfBounds; event(-1, -1): !IndexOutOfBounds; event(50, 2): !IndexOutOfBounds""");
        Script.check("the read of an addition that its write aborts is an event, its write is none", """
                begin(0): 0; begin(0): 1; read(1, 4): 0; add(0, 4, 1): ABORTED; eventCount(): 5; event(3, 0): 1; event(3, 1): 0;
                event(4, 0): 6; event(4, 2): 4; total(2): 0""");
    }

    private static void totals() {
        Script.refused("the kind is out of range", "begin(0): 0", "total(-1): !IllegalArgument; total(9): !IllegalArgument; "
                + "total(MIN): !IllegalArgument; total(MAX): !IllegalArgument");
        Script.check("the kind, 0 to 8", "begin(0): 0; abort(0): 1; restartNext(): 0; total(0): 1; total(8): 1; total(7): 0; total(6): 1");
        Script.check("recorded or not", "begin(0): 0; " + "read(0, 0): 0; ".repeat(20) + "abort(0): 1; restartNext(): 0; ".repeat(5),
                "eventCount(): 50; total(0): 1; total(1): 120; total(6): 5; total(8): 5");
        Script.check("since the protocol was set", "begin(0): 0; read(0, 0): 0; commit(0): true; reset(2): 2;" + Script.numbered(0, 8,
                "total(%1$d): 0; ") + "begin(0): 0; total(0): 1");
        Script.check("A cascading abort counts only among the cascading ones, but for its transaction as an abort; the share takes both", """
                begin(0): 0; begin(0): 1; write(0, 0, 1): 0; read(1, 0): 1; abort(0): 2; total(6): 1; total(7): 1; transaction(0, 3): 1;
                transaction(1, 3): 1; abortShare(): 1.0""");
    }

    private static void abortShare() {
        Script.refused("no timestamp was given", "reset(1): 2", "abortShare(): !Arithmetic; begin(10): !IllegalArgument; "
                + "abortShare(): !Arithmetic");
        Script.check("one timestamp was given", "begin(0): 0; abortShare(): 0.0; abort(0): 1; abortShare(): 1.0");
        Script.check("both converted to double", "begin(0): 0; begin(0): 1; begin(0): 2; abort(1): 1; abortShare(): 0.3333333333333333; "
                + "restartNext(): 1; abortShare(): 0.25");
        Script.check("no timestamp was given since the reset", "begin(0): 0; abort(0): 1; reset(0): 2; abortShare(): !Arithmetic; "
                + "begin(0): 0; abortShare(): 0.0");
        Script.check("no timestamp was given in the snapshot", "snapshot(): 0; begin(0): 0; abort(0): 1; abortShare(): 1.0; restore(): 0; "
                + "abortShare(): !Arithmetic");
    }

    private static void transactionProperties() {
        Script.check("the number, 0 to 16", "transactionCount(): 0;" + Script.numbered(0, 15, "begin(0): %1$d; "
                + "transactionCount(): %2$d; ") + "begin(0): !IllegalState; transactionCount(): 16");
        Script.check("the priority, 0 to 9", Script.numbered(0, 9, "begin(%1$d): %1$d; transaction(%1$d, 2): %1$d; "));
        Script.refused("the priority is out of range", "begin(4): 0", "begin(-1): !IllegalArgument; begin(10): !IllegalArgument; "
                + "begin(MIN): !IllegalArgument; begin(MAX): !IllegalArgument");
        Script.check("what: 0 to 4", "begin(6): 0; read(0, 0): 0; abort(0): 1; restartNext(): 0; read(0, 1): 0; transaction(0, 0): 0; "
                + "transaction(0, 1): 2; transaction(0, 2): 6; transaction(0, 3): 1; transaction(0, 4): 2");
        Script.refused("there is no such transaction, or what is out of range", "begin(0): 0; begin(0): 1", """
                transaction(-1, 0): !IndexOutOfBounds; transaction(2, 0): !IndexOutOfBounds; transaction(16, 0): !IndexOutOfBounds;
                transaction(MIN, 0): !IndexOutOfBounds;
                transaction(MAX, 4): !IndexOutOfBounds; transaction(2, 5): !IndexOutOfBounds; transaction(-1, -1): !IndexOutOfBounds;
                transaction(0, -1): !IllegalArgument; transaction(0, 5): !IllegalArgument; transaction(1, MIN): !IllegalArgument;
                transaction(1, MAX): !IllegalArgument""");
    }

    private static void masks() {
        Script.refused("there is no such transaction, for dependencies and cascade", "begin(0): 0; begin(0): 1", """
                dependencies(-1): !IndexOutOfBounds; dependencies(2): !IndexOutOfBounds; dependencies(16): !IndexOutOfBounds;
                dependencies(MIN): !IndexOutOfBounds;
                dependencies(MAX): !IndexOutOfBounds; cascade(-1): !IndexOutOfBounds; cascade(2): !IndexOutOfBounds;
                cascade(16): !IndexOutOfBounds;
                cascade(MIN): !IndexOutOfBounds; cascade(MAX): !IndexOutOfBounds""");
        String lastReads = SIXTEEN + Script.numbered(0, 6, "write(%1$d, %1$d, 1): 0; ") + Script.numbered(0, 6, "read(15, %1$d): 1; ");
        Script.check("in which bit t stands for transaction t: bits 0, 14 and 15", lastReads, "dependencies(15): 127; cascade(0): 32769; "
                + "cascade(6): 32832; cascade(15): 32768; write(14, 7, 1): 0; read(15, 7): 1; dependencies(15): 16511; cascade(14): 49152");
        Script.check("the uncommitted transactions on which a transaction depends directly", "begin(0): 0; begin(0): 1; begin(0): 2; "
                + "add(0, 0, 1): 1; add(1, 0, 1): 2; read(2, 0): 2; dependencies(2): 2; dependencies(1): 1; commit(0): true; "
                + "dependencies(1): 0; dependencies(2): 2");
        Script.check("0 if the transaction is neither active nor pending", "begin(0): 0; begin(0): 1; begin(0): 2; cascade(0): 1; "
                + "add(0, 0, 1): 1; add(1, 0, 1): 2; commit(1): false; cascade(1): 2; cascade(0): 3; abort(1): 1; cascade(1): 0; "
                + "cascade(0): 1; commit(0): true; cascade(0): 0; cascade(2): 4");
        Script.check("A transaction that is committed or aborted depends on none", "begin(0): 0; begin(0): 1; begin(0): 2; "
                + "write(0, 0, 1): 0; read(1, 0): 1; read(2, 0): 1; abort(2): 1; dependencies(2): 0; commit(0): true; commit(1): true; "
                + "dependencies(1): 0");
        Script.check("cascade does not abort", lastReads, "cascade(0): 32769; transaction(0, 0): 0; transaction(15, 0): 0; total(6): 0; "
                + "total(7): 0");
    }

    private static void operationNumbers() {
        Script.check("the index of the operation in the list, from 0: 19 and 20 of a full list", "begin(0): 0; "
                + "write(0, 1, 5): 0; ".repeat(19) + "add(0, 1, -2): 3; ", """
                operation(0, 0, 0): 1; operation(0, 18, 0): 1; operation(0, 19, 0): 2; operation(0, 19, 1): 1; operation(0, 19, 2): -2;
                operation(0, 19, 3): 5;
                operation(0, 20, 0): !IndexOutOfBounds""");
        Script.refused("there is no such transaction or operation, or what is out of range", "begin(0): 0; begin(0): 1; read(0, 3): 0", """
                operation(-1, 0, 0): !IndexOutOfBounds; operation(2, 0, 0): !IndexOutOfBounds; operation(MAX, 0, 0): !IndexOutOfBounds;
                operation(MIN, 0, 0): !IndexOutOfBounds;
                operation(0, -1, 0): !IndexOutOfBounds; operation(0, 1, 0): !IndexOutOfBounds; operation(0, MAX, 0): !IndexOutOfBounds;
                operation(0, MIN, 0): !IndexOutOfBounds;
                operation(1, 0, 0): !IndexOutOfBounds; operation(2, 0, 4): !IndexOutOfBounds; operation(0, 1, 4): !IndexOutOfBounds;
                operation(0, 1, -1): !IndexOutOfBounds;
                operation(0, 0, 4): !IllegalArgument; operation(0, 0, -1): !IllegalArgument; operation(0, 0, MAX): !IllegalArgument;
                operation(0, 0, MIN): !IllegalArgument""");
        Script.check("the value that is to be written or the number that is to be added, 0 for a read", """
                begin(0): 0; write(0, 0, MIN): 0; write(0, 0, MAX): 0; read(0, 0): 2147483647; add(0, 0, MIN): -1;
                operation(0, 0, 2): -2147483648; operation(0, 1, 2): 2147483647;
                operation(0, 2, 2): 0; operation(0, 2, 3): 2147483647; operation(0, 3, 2): -2147483648; operation(0, 3, 3): 2147483647""");
        Script.check("an earlier object's list is not seen after a reset", "begin(0): 0; write(0, 0, 5): 0; read(0, 0): 5; reset(2): 2; "
                + "begin(0): 0; operation(0, 0, 0): !IndexOutOfBounds; transaction(0, 4): 0");
    }

    private static void versionNumbers() {
        Script.refused("there is no such item or version, or what is out of range", "begin(0): 0; write(0, 2, 5): 0", """
                version(-1, 0, 0): !IndexOutOfBounds; version(8, 0, 0): !IndexOutOfBounds; version(MIN, 0, 0): !IndexOutOfBounds;
                version(MAX, 0, 0): !IndexOutOfBounds;
                version(2, -1, 0): !IndexOutOfBounds; version(2, 2, 0): !IndexOutOfBounds; version(1, 1, 0): !IndexOutOfBounds;
                version(2, MIN, 0): !IndexOutOfBounds;
                version(2, MAX, 0): !IndexOutOfBounds; version(8, 0, 5): !IndexOutOfBounds; version(2, 2, 5): !IndexOutOfBounds;
                version(2, 2, -1): !IndexOutOfBounds;
                version(2, 1, 5): !IllegalArgument; version(2, 1, -1): !IllegalArgument; version(2, 0, MIN): !IllegalArgument;
                version(2, 0, MAX): !IllegalArgument;
                versionCount(-1): !IndexOutOfBounds; versionCount(8): !IndexOutOfBounds; versionCount(MIN): !IndexOutOfBounds;
                versionCount(MAX): !IndexOutOfBounds""");
        Script.check("the number of versions, at least 1", "versionCount(0): 1; begin(0): 0; write(0, 0, 1): 0; versionCount(0): 2; "
                + "abort(0): 1; versionCount(0): 1; restartNext(): 0; commit(0): true; collect(): 1; versionCount(0): 1; "
                + "version(0, 1, 0): !IndexOutOfBounds");
        Script.check("the writer, -1 if there is none", "begin(0): 0; write(0, 0, 1): 0; version(0, 0, 3): -1; version(0, 1, 3): 0; "
                + "commit(0): true; collect(): 1; version(0, 0, 3): 0");
    }

    private static void valueAt() {
        Script.check("whose write timestamp is at most a given timestamp", "begin(0): 0; begin(0): 1; begin(0): 2; write(1, 0, 20): 0; "
                + "commit(1): true;", """
                valueAt(0, MIN): !NoSuchElement; valueAt(0, -1): !NoSuchElement; valueAt(0, 0): 0; valueAt(0, 1): 0; valueAt(0, 2): 20;
                valueAt(0, 3): 20; valueAt(0, MAX): 20;
                write(2, 0, 30): 0; valueAt(0, 3): 20; valueAt(0, MAX): 20; commit(2): true; valueAt(0, 2): 20; valueAt(0, 3): 30""");
        Script.check("the last committed version, over several uncommitted ones", Script.numbered(0, 5, "begin(0): %1$d; "
                + "write(%1$d, 0, %2$d): 0; "), "commit(1): true; valueAt(0, 6): 2; valueAt(0, 1): 0; commit(4): true; valueAt(0, 6): 5; "
                + "valueAt(0, 4): 2");
        Script.check("a pending version is not committed", "begin(0): 0; begin(0): 1; write(0, 0, 1): 0; add(1, 0, 1): 2; "
                + "commit(1): false; valueAt(0, 9): 0; commit(0): true; valueAt(0, 1): 1; valueAt(0, 2): 2");
        Script.refused("no such version, or no longer one", "begin(0): 0; begin(0): 1; write(1, 0, 5): 0; commit(1): true; "
                + "commit(0): true; collect(): 1", """
                valueAt(0, 1): !NoSuchElement; valueAt(0, 0): !NoSuchElement; valueAt(0, -1): !NoSuchElement;
                valueAt(1, -1): !NoSuchElement""");
        Script.refused("there is no such item: checked first", "", "valueAt(-1, -1): !IndexOutOfBounds; valueAt(8, -1): !IndexOutOfBounds; "
                + "valueAt(8, 0): !IndexOutOfBounds; valueAt(MAX, MIN): !IndexOutOfBounds; valueAt(MIN, MAX): !IndexOutOfBounds");
        Script.check("after a collection the kept version's timestamp is the lowest that has a value", "begin(0): 0; begin(0): 1; "
                + "write(1, 0, 5): 0; commit(1): true; commit(0): true; collect(): 1; valueAt(0, 1): !NoSuchElement; valueAt(0, 2): 5; "
                + "valueAt(1, 0): 0");
    }

    private static void check() {
        Script.check("no transaction, no committed one, all committed", "check(): 0; begin(0): 0; add(0, 0, 5): 5; check(): 0; "
                + "commit(0): true; check(): 0; collect(): 1; check(): 0");
        Script.check("16 committed transactions with int overflow", Script.numbered(0, 15, "begin(0): %1$d; add(%1$d, 0, 1000000000): _; "
                + "commit(%1$d): true; "), "check(): 0; valueAt(0, 16): -1179869184");
    }

    private static void fiveHundredAndTwelveCalls() {
        Script.check("An object is used for at most 512 calls: the 512th answers", "begin(0): 0; " + "add(0, 0, 1): _; ".repeat(20)
                + "abort(0): 1; restartNext(): 0; ".repeat(240),
                "version(0, 1, 2): 20; version(0, 1, 0): 241; transaction(0, 3): 240; total(1): 4820; total(2): 4820; total(6): 240; "
                + "total(8): 240; eventCount(): 50; event(8, 0): 6; event(9, 0): 8; horizon(): 241");
        Script.check("512 refused calls", "begin(10): !IllegalArgument; ".repeat(511), "begin(9): 0");
        Script.check("512 snapshots and restores", "begin(0): 0; write(0, 0, 1): 0; snapshot(): 1; "
                + "restore(): 1; snapshot(): 1; ".repeat(254), "version(0, 1, 2): 1");
        Script.check("512 calls with resets", Script.numbered(0, 253, "reset(2): 2; begin(0): 0; "), "transaction(0, 1): 1; total(0): 1");
    }
}
