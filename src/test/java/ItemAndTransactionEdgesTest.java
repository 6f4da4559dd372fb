/** The boundary cases of the description's paragraphs on items and versions, transactions, and operations. */
public final class ItemAndTransactionEdgesTest {
    private static final String SIXTEEN = Script.numbered(0, 15, "begin(3): %1$d; ");

    public static void main(String[] args) {
        newWorkbench();
        eightItems();
        chainsAscend();
        sixteenTransactions();
        timestamps();
        states();
        sumsWrapAround();
        leastIntIsAValue();
        twentyOperations();
        operationsThatAbort();
        Script.end();
    }

    private static void newWorkbench() {
        Script.expect("The result of an operation that aborted its transaction", TimestampScheduler.ABORTED == -2147483648);
        Script.check("A new workbench has the protocol multiversion", "begin(0): 0; begin(0): 1; write(1, 0, 5): 0; read(0, 0): 0; "
                + "reset(0): 2");
        Script.check("A new workbench has no transactions", """
                transactionCount(): 0; transaction(0, 0): !IndexOutOfBounds; dependencies(0): !IndexOutOfBounds;
                read(0, 0): !IndexOutOfBounds; commit(0): !IndexOutOfBounds; restartNext(): !NoSuchElement""");
        Script.check("A new workbench has 1 as the next timestamp", "horizon(): 1; abortShare(): !Arithmetic; begin(0): 0; "
                + "transaction(0, 1): 1");
        Script.check("A new workbench has no events, no row, no snapshot, no error position and an empty buffer", """
                eventCount(): 0; event(0, 0): !IndexOutOfBounds; cloneRow(0, 0): !IllegalState; cloneRow(1, 0): !IllegalState;
                cloneRow(2, 0): !IllegalState; restore(): !IllegalState; errorPosition(): !NoSuchElement; begin(0): 0; run(0): 0;
                append(99): 1""");
        Script.check("A new workbench's statistics are 0", Script.numbered(0, 8, "total(%1$d): 0; "));
    }

    private static void eightItems() {
        for (int item = 0; item < 8; item++) {
            String own = ("versionCount(I): 1; version(I, 0, 0): 0; version(I, 0, 1): 0; version(I, 0, 2): 0; version(I, 0, 3): -1;"
                    + "version(I, 0, 4): 1; valueAt(I, 0): 0; begin(0): 0; read(0, I): 0; write(0, I, 3): 0; add(0, I, 4): 7;"
                    + "versionCount(I): 2; version(I, 1, 2): 7; event(1, 2): I; allocate(0, 1, 2): nothing; export(0, I): 2;"
                    + "divide(0, 1, 1): 7.0; text('aI-9'): 4; run(0): 1; commit(0): true; valueAt(I, 1): -2; collect(): 1;"
                    + "versionCount(I): 1; check(): 0;").replace("I", String.valueOf(item));
            StringBuilder others = new StringBuilder();
            for (int other = 0; other < 8; other++) {
                if (other != item) {
                    others.append("versionCount(%1$d): 1; version(%1$d, 0, 0): 0; version(%1$d, 0, 1): 0; valueAt(%1$d, 9): 0;".formatted(other));
                }
            }
            Script.check("There are 8 items, numbered from 0: item " + item, own, others.toString());
        }
        for (String item : new String[] {"-1", "8", "MIN", "MAX"}) {
            Script.refused("There are 8 items, numbered from 0: no item " + item, "begin(0): 0; write(0, 7, 2): 0; "
                    + "allocate(0, 1, 9): nothing", """
                    read(0, I): !IndexOutOfBounds; write(0, I, 1): !IndexOutOfBounds; add(0, I, 1): !IndexOutOfBounds;
                    versionCount(I): !IndexOutOfBounds; version(I, 0, 0): !IndexOutOfBounds; valueAt(I, 0): !IndexOutOfBounds;
                    export(0, I): !IndexOutOfBounds""".replace("I)", item + ")").replace("I,", item + ","));
        }
    }

    private static void chainsAscend() {
        StringBuilder backwards = new StringBuilder();
        for (int number = 14; number >= 0; number--) {
            backwards.append("write(%1$d, 3, %2$d): OBSOLETE; ".formatted(number, 100 + number));
        }
        String ascending = Script.numbered(1, 16, "version(3, %1$d, 0): %1$d; ") + Script.numbered(0, 15, "version(3, %2$d, 3): %1$d; ");
        String full = "versionCount(3): 17; version(3, 0, 0): 0; version(3, 1, 2): 100; version(3, 16, 2): 115; "
                + "version(3, 17, 0): !IndexOutOfBounds; ";
        for (int protocol = 1; protocol <= 2; protocol++) {
            Script.check("versions, in ascending order of their write timestamps: protocol " + protocol,
                    "reset(" + protocol + "): 2; " + SIXTEEN + "write(15, 3, 115): 0; ",
                    backwards.toString().replace("OBSOLETE", protocol == 1 ? "1" : "0"), full, ascending,
                    "write(15, 3, 7): 0; write(0, 3, 6): OBSOLETE; ".replace("OBSOLETE", protocol == 1 ? "1" : "0"),
                    "versionCount(3): 17; version(3, 1, 2): 6; version(3, 16, 2): 7; versionCount(2): 1; versionCount(4): 1");
        }
        Script.check("The last version of the chain is called current, also after the last one is removed", """
                reset(0): 2; begin(0): 0; begin(0): 1; begin(0): 2; begin(0): 3; write(1, 0, 2): 0; write(3, 0, 4): 0; abort(3): 1;
                read(2, 0): 2; read(0, 0): ABORTED""");
    }

    private static void sixteenTransactions() {
        Script.check("There are at most 16 transactions: 15, 16 and no more", Script.numbered(0, 14, "begin(0): %1$d; "), """
                transactionCount(): 15; transaction(15, 0): !IndexOutOfBounds; begin(9): 15; transactionCount(): 16; transaction(15, 0): 0;
                transaction(15, 1): 16; transaction(16, 0): !IndexOutOfBounds; read(15, 7): 0; event(16, 1): 15""");
        Script.refused("There are at most 16 transactions: a refused one gets no timestamp", SIXTEEN, """
                begin(0): !IllegalState; begin(9): !IllegalState; transactionCount(): 16; total(0): 16; eventCount(): 16""");
        Script.check("There are at most 16 transactions: those that ended count, too", SIXTEEN, """
                commit(0): true; abort(15): 1; begin(0): !IllegalState; transactionCount(): 16; horizon(): 2; restartNext(): 15;
                transaction(15, 1): 17; begin(0): !IllegalState; reset(2): 2; begin(0): 0; transaction(0, 1): 1""");
        Script.check("numbered from 0 in the order in which they are begun", SIXTEEN, Script.numbered(0, 15, "transaction(%1$d, 1): %2$d; "
                + "event(%1$d, 1): %1$d; "));
        Script.check("numbered in this order, also after a restart", "begin(0): 0; abort(0): 1; restartNext(): 0; begin(0): 1; "
                + "transaction(0, 1): 2; transaction(1, 1): 3");
    }

    private static void timestamps() {
        Script.check("Timestamps are given in the order 1, 2, 3", """
                begin(0): 0; begin(0): 1; abort(0): 1; restartNext(): 0; begin(0): 2; abort(1): 1; restartNext(): 1; transaction(0, 1): 3;
                transaction(1, 1): 5; transaction(2, 1): 4; horizon(): 3""");
        Script.refused("Timestamps are given to those that are begun or restarted, and not by refused calls", "begin(0): 0; "
                + "commit(0): true", """
                begin(10): !IllegalArgument; begin(-1): !IllegalArgument; restartNext(): !NoSuchElement; horizon(): 2;
                abortShare(): 0.0""");
        Script.check("one whenever it is restarted, 250 times", "begin(0): 0; " + "abort(0): 1; restartNext(): 0; ".repeat(250),
                "transaction(0, 1): 251; transaction(0, 3): 250; horizon(): 251; total(8): 250; abortShare(): 0.9960159362549801");
    }

    private static void states() {
        Script.check("active (state 0), pending (1), committed (2) or aborted (3)", """
                begin(0): 0; begin(0): 1; begin(0): 2; begin(0): 3; write(0, 0, 1): 0; write(1, 1, 1): 0; read(1, 0): 1; commit(1): false;
                write(2, 2, 1): 0; commit(2): true; write(3, 3, 1): 0; abort(3): 1; transaction(0, 0): 0; transaction(1, 0): 1;
                transaction(2, 0): 2; transaction(3, 0): 3; version(0, 1, 4): 0; version(1, 1, 4): 0; version(2, 1, 4): 1;
                versionCount(3): 1""");
        for (String call : new String[] {"read(T, 0)", "write(T, 0, 1)", "add(T, 0, 1)", "commit(T)", "run(T)"}) {
            String ended = "begin(0): 0; begin(0): 1; begin(0): 2; begin(0): 3; write(0, 0, 1): 0; read(1, 0): 1; commit(1): false;"
                    + "commit(2): true; abort(3): 1; text('r0'): 2;";
            Script.refused("An active transaction can do operations, no other: " + call, ended,
                    "C1: !IllegalState; C2: !IllegalState; C3: !IllegalState".replace("C1", call.replace('T', '1'))
                            .replace("C2", call.replace('T', '2')).replace("C3", call.replace('T', '3')));
            Script.check("An active transaction can do operations, also a restarted one: " + call, ended, "restartNext(): 3; "
                    + call.replace('T', '3') + ": _");
        }
        Script.check("Active and pending transactions are called uncommitted", """
                begin(0): 0; begin(0): 1; begin(0): 2; write(0, 0, 1): 0; add(1, 0, 1): 2; commit(1): false; read(2, 0): 2;
                dependencies(2): 2; cascade(1): 6; horizon(): 1; valueAt(0, 9): 0""");
    }

    private static void sumsWrapAround() {
        Script.check("the sum, as int arithmetic with overflow", """
                begin(0): 0; write(0, 0, MAX): 0; add(0, 0, 1): -2147483648; add(0, 0, -1): 2147483647; add(0, 0, MAX): -2;
                add(0, 0, MIN): 2147483646; write(0, 0, MIN): 0; add(0, 0, MIN): 0; add(0, 0, -1): -1; transaction(0, 0): 0;
                operation(0, 1, 3): 2147483647; operation(0, 2, 3): -2147483648; operation(0, 4, 3): -2; operation(0, 6, 3): -2147483648;
                operation(0, 6, 2): -2147483648; commit(0): true; valueAt(0, 1): -1; check(): 0""");
        Script.check("overflow in a program", """
                begin(0): 0; write(0, 0, MAX): 0; text('a0+1 a0-1 a0+9999 r0'): 20; run(0): 4; transaction(0, 0): 0;
                operation(0, 4, 3): -2147473650; commit(0): true; check(): 0""");
        Script.check("overflow in a restart", """
                begin(0): 0; write(0, 0, MAX): 0; add(0, 0, 2): -2147483647; abort(0): 1; restartNext(): 0; version(0, 1, 2): -2147483647;
                operation(0, 1, 3): 2147483647""");
    }

    private static void leastIntIsAValue() {
        Script.check("the value that is read, which can be any int: the least int is no abort", """
                begin(0): 0; write(0, 0, MIN): 0; read(0, 0): -2147483648; transaction(0, 0): 0; total(6): 0; write(0, 1, 5): 0;
                operation(0, 1, 3): -2147483648; abort(0): 1; restartNext(): 0; transaction(0, 0): 0; version(0, 1, 2): -2147483648;
                version(1, 1, 2): 5; operation(0, 1, 3): -2147483648""");
        Script.check("the value that is written, which can be any int", """
                begin(0): 0; add(0, 0, MIN): -2147483648; transaction(0, 0): 0; write(0, 1, MIN): 0; text('r0 a0+0 w2=1 c'): 14; run(0): 3;
                transaction(0, 0): 2; valueAt(0, 1): -2147483648; valueAt(1, 1): -2147483648; valueAt(2, 1): 1; check(): 0""");
    }

    private static void twentyOperations() {
        for (String call : new String[] {"read(0, 0)", "write(0, 0, 1)", "add(0, 0, 1)"}) {
            String full = "begin(0): 0; " + (call + ": _; ").repeat(19) + "transaction(0, 4): 19; " + call + ": _; transaction(0, 4): 20";
            Script.refused("a list of its operations, which can hold 20: " + call, full, call + ": !UnsupportedOperation; "
                    + "transaction(0, 0): 0");
            Script.check("a full list is done again by a restart: " + call, full, "; abort(0): 1; restartNext(): 0; transaction(0, 4): 20; "
                    + "transaction(0, 0): 0;"
                    + call + ": !UnsupportedOperation; operation(0, 19, 1): 0; operation(0, 20, 0): !IndexOutOfBounds; commit(0): true");
        }
        Script.check("The operation is appended first, even if it then aborts: the 20th", "begin(0): 0; begin(0): 1; read(1, 1): 0; "
                + "read(0, 0): 0; ".repeat(19), """
                write(0, 1, 6): ABORTED; transaction(0, 4): 20; transaction(0, 0): 3; operation(0, 19, 0): 1; operation(0, 19, 2): 6;
                read(0, 0): !IllegalState; restartNext(): 0; transaction(0, 0): 0; version(1, 1, 2): 6;
                read(0, 0): !UnsupportedOperation""");
    }

    private static void operationsThatAbort() {
        Script.check("appended to this list first, even if it then aborts: a read", """
                reset(0): 2; begin(0): 0; begin(0): 1; write(1, 2, 9): 0; read(0, 2): ABORTED; transaction(0, 4): 1; operation(0, 0, 0): 0;
                operation(0, 0, 1): 2; operation(0, 0, 2): 0; operation(0, 0, 3): 0; transaction(0, 3): 1""");
        Script.check("appended to this list first, even if it then aborts: an addition whose read aborts", """
                reset(0): 2; begin(0): 0; begin(0): 1; write(1, 2, 9): 0; add(0, 2, 4): ABORTED; transaction(0, 4): 1;
                operation(0, 0, 0): 2;
                operation(0, 0, 2): 4; operation(0, 0, 3): 0; total(1): 0; eventCount(): 4; event(3, 0): 6; event(3, 1): 0; event(3, 2): 2;
                restartNext(): 0; operation(0, 0, 3): 9; version(2, 2, 2): 13; dependencies(0): 2""");
        Script.check("if the write of an addition aborts, its read has been done before", """
                begin(0): 0; begin(0): 1; begin(0): 2; write(0, 2, 6): 0; read(2, 2): 6; add(1, 2, 1): ABORTED; operation(1, 0, 3): 0;
                total(1): 2; total(2): 1; eventCount(): 7; event(5, 0): 1; event(5, 1): 1; event(5, 2): 2; event(6, 0): 6; event(6, 2): 2;
                dependencies(1): 0; commit(0): true; commit(2): true; restartNext(): 1; operation(1, 0, 3): 6; transaction(1, 0): 0""");
        Script.check("An operation has a result: 0 for a write", """
                begin(0): 0; write(0, 0, 7): 0; write(0, 0, MIN): 0; operation(0, 0, 3): 0; operation(0, 1, 3): 0; operation(0, 0, 2): 7;
                operation(0, 1, 2): -2147483648""");
    }
}
