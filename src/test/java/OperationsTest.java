/** Promises 1 to 9: a new object, reset, begin, read, write, add, commit, abort, restartNext. */
public final class OperationsTest {
    public static void main(String[] args) {
        newObject();
        reset();
        begin();
        readBasicAndThomas();
        readMultiversion();
        writeBasic();
        writeThomas();
        writeMultiversion();
        add();
        wrongOperations();
        commit();
        abort();
        restart();
        Script.end();
    }

    private static void newObject() {
        Script.expect("the constant", TimestampScheduler.ABORTED == Integer.MIN_VALUE);
        Script.check("promise 1", """
                transactionCount(): 0; eventCount(): 0; horizon(): 1; versionCount(0): 1; versionCount(7): 1;
                version(5, 0, 0): 0; version(5, 0, 1): 0; version(5, 0, 2): 0; version(5, 0, 3): -1; version(5, 0, 4): 1;
                check(): 0; collect(): 0; total(0): 0; reset(2): 2""");
        Script.check("promise 1: rows, buffer and snapshot", """
                cloneRow(0, 1): throws.IllegalStateException; cloneRow(1, 1): throws.IllegalStateException;
                cloneRow(2, 1): throws.IllegalStateException; errorPosition(): throws.NoSuchElementException;
                restore(): throws.IllegalStateException; append(32): 1""");
    }

    private static void reset() {
        Script.check("promise 2: answers and range", """
                reset(0): 2; reset(1): 0; reset(-1): throws.IllegalArgumentException;
                reset(3): throws.IllegalArgumentException; reset(2): 1""");
        Script.check("promise 2: what ends", """
                begin(1): 0; write(0, 2, 5): 0; read(0, 3): 0; commit(0): true; collect(): 1; reset(2): 2;
                transactionCount(): 0; eventCount(): 0; total(0): 0; total(5): 0; versionCount(2): 1;
                version(2, 0, 0): 0; version(2, 0, 1): 0; version(2, 0, 2): 0; version(2, 0, 3): -1; version(3, 0, 1): 0;
                horizon(): 1; abortShare(): throws.ArithmeticException; transaction(0, 0): throws.IndexOutOfBoundsException;
                begin(4): 0; transaction(0, 1): 1; transaction(0, 2): 4; transaction(0, 3): 0; transaction(0, 4): 0;
                dependencies(0): 0; write(0, 0, 1): 0; operation(0, 0, 3): 0""");
        Script.check("promise 2: nothing of the earlier transactions is left", """
                begin(0): 0; begin(0): 1; write(0, 0, 8): 0; read(1, 0): 8; read(0, 0): 8; add(0, 0, 1): ABORTED; restartNext(): 0;
                restartNext(): 1; read(1, 0): 9; reset(2): 2; versionCount(0): 1; version(0, 0, 1): 0; begin(0): 0; begin(0): 1;
                transaction(0, 3): 0; transaction(1, 3): 0; dependencies(1): 0; write(1, 0, 1): 0; write(1, 1, 1): 0;
                operation(1, 0, 3): 0; operation(1, 1, 3): 0; commit(1): true; event(0, 0): 0; event(2, 2): 0; event(4, 0): 5""");
        Script.check("promise 2: the result of an operation that aborts at once is 0, whatever stood there before", """
                begin(0): 0; write(0, 0, 8): 0; read(0, 0): 8; read(0, 0): 8; reset(0): 2; begin(0): 0; begin(0): 1; write(1, 0, 5): 0;
                read(0, 1): 0; read(0, 0): ABORTED; operation(0, 1, 3): 0""");
        Script.check("promise 2: what stays", """
                begin(1): 0; text('q'): 1; run(0): throws.IllegalArgumentException; text('r1 '): 3;
                allocate(1, 1, 4): nothing; snapshot(): 1; reset(0): 2; errorPosition(): 0; append(99): 4;
                cloneRow(1, 1): 4; begin(5): 0; run(0): 1; transaction(0, 0): 2; reset(1): 0; restore(): 1;
                transaction(0, 2): 1; reset(1): 2""");
        Script.check("promise 2: a wrong call changes nothing", """
                begin(1): 0; reset(7): throws.IllegalArgumentException; transactionCount(): 1""");
    }

    private static void begin() {
        Script.check("promise 3", """
                begin(0): 0; begin(9): 1; begin(-1): throws.IllegalArgumentException;
                begin(10): throws.IllegalArgumentException; transactionCount(): 2; transaction(0, 0): 0;
                transaction(0, 1): 1; transaction(1, 1): 2; transaction(1, 2): 9; event(1, 0): 0; event(1, 1): 1;
                event(1, 2): -1; total(0): 2; horizon(): 1""");
        StringBuilder sixteen = new StringBuilder();
        for (int number = 0; number < 16; number++) {
            sixteen.append("begin(3): ").append(number).append("; ");
        }
        Script.check("promise 3: at most 16", sixteen.toString(), """
                begin(3): throws.IllegalStateException; begin(10): throws.IllegalArgumentException; transactionCount(): 16;
                commit(3): true; begin(0): throws.IllegalStateException; total(0): 16; transaction(15, 1): 16""");
    }

    private static void readBasicAndThomas() {
        for (int protocol = 0; protocol < 2; protocol++) {
            Script.check("promise 4: protocol " + protocol, "reset(" + protocol + "): 2", """
                    begin(0): 0; begin(0): 1; begin(0): 2; read(1, 0): 0; version(0, 0, 1): 2; read(0, 0): 0;
                    version(0, 0, 1): 2; write(1, 0, 8): 0; read(1, 0): 8; dependencies(1): 0; read(2, 0): 8;
                    dependencies(2): 2; version(0, 1, 1): 3; read(0, 0): ABORTED; transaction(0, 0): 3;
                    transaction(0, 3): 1; transaction(0, 4): 2; operation(0, 1, 0): 0; operation(0, 1, 3): 0;
                    eventCount(): 9; event(8, 0): 6; event(8, 1): 0; event(8, 2): 0; event(7, 0): 1; event(7, 1): 2;
                    event(7, 2): 0; total(1): 4; operation(2, 0, 3): 8; operation(2, 0, 2): 0; version(0, 0, 1): 2""");
        }
    }

    private static void readMultiversion() {
        Script.check("promise 4: multiversion", """
                begin(0): 0; begin(0): 1; begin(0): 2; write(1, 4, 8): 0; write(2, 4, 9): 0; read(0, 4): 0;
                version(4, 0, 1): 1; read(1, 4): 8; version(4, 1, 1): 2; read(2, 4): 9; dependencies(2): 0;
                begin(0): 3; read(3, 4): 9; dependencies(3): 4; version(4, 2, 1): 4; commit(2): true;
                dependencies(3): 0; begin(1): 4; read(4, 4): 9; dependencies(4): 0""");
        Script.check("promise 4: the least int is a value like others", """
                begin(0): 0; write(0, 1, MIN): 0; read(0, 1): -2147483648; transaction(0, 0): 0; operation(0, 1, 3): -2147483648;
                add(0, 1, 0): -2147483648; transaction(0, 0): 0; commit(0): true; check(): 0""");
    }

    private static void writeBasic() {
        Script.check("promise 5: basic", """
                reset(0): 2; begin(0): 0; begin(0): 1; begin(0): 2; write(1, 0, 5): 0; write(1, 0, 6): 0;
                versionCount(0): 2; version(0, 1, 2): 6; version(0, 1, 1): 0; version(0, 1, 3): 1; version(0, 1, 4): 0;
                write(0, 0, 7): ABORTED; transaction(0, 0): 3; total(3): 0; event(5, 0): 6; event(5, 1): 0;
                event(5, 2): 0; operation(0, 0, 2): 7; versionCount(0): 2; read(2, 1): 0; write(1, 1, 1): ABORTED;
                versionCount(0): 1; transaction(1, 4): 3""");
        Script.check("promise 5: basic looks at the read timestamps of all versions", """
                reset(0): 2; begin(0): 0; begin(0): 1; begin(0): 2; begin(0): 3; read(3, 0): 0; version(0, 0, 1): 4;
                abort(3): 1; version(0, 0, 1): 4; write(2, 0, 1): ABORTED; restartNext(): 2; transaction(2, 1): 5;
                versionCount(0): 2; write(1, 0, 1): ABORTED""");
        Script.check("promise 5: an older version's read timestamp counts, too", """
                reset(1): 2; begin(0): 0; begin(0): 1; begin(0): 2; read(1, 0): 0; write(2, 0, 4): 0; write(0, 0, 1): ABORTED;
                write(1, 0, 6): 1; version(0, 1, 2): 6""");
    }

    private static void writeThomas() {
        Script.check("promise 5: Thomas", """
                reset(1): 2; begin(0): 0; begin(0): 1; begin(0): 2; write(2, 0, 9): 0; write(1, 0, 4): 1; write(0, 0, 3): 1;
                write(1, 0, 5): 1; versionCount(0): 4; version(0, 0, 0): 0; version(0, 1, 0): 1; version(0, 1, 2): 3;
                version(0, 2, 0): 2; version(0, 2, 2): 5; version(0, 3, 2): 9; total(2): 1; total(3): 3; event(6, 0): 3;
                event(6, 1): 1; event(6, 2): 0; operation(1, 0, 3): 0; write(2, 0, 8): 0; write(2, 1, 8): 0;
                read(2, 0): 8; write(1, 0, 7): ABORTED; versionCount(0): 3""");
    }

    private static void writeMultiversion() {
        Script.check("promise 5: multiversion", """
                begin(0): 0; begin(0): 1; begin(0): 2; write(2, 6, 9): 0; write(0, 6, 3): 0; versionCount(6): 3;
                version(6, 1, 2): 3; version(6, 2, 2): 9; total(3): 0; read(1, 6): 3; version(6, 1, 1): 2;
                dependencies(1): 1; write(0, 6, 4): ABORTED; transaction(1, 0): 3; versionCount(6): 2; read(2, 6): 9;
                write(2, 6, 10): 0; version(6, 1, 1): 3; version(6, 1, 2): 10; total(7): 1; total(6): 1""");
        Script.check("promise 5: only the version at the timestamp counts", """
                begin(0): 0; begin(0): 1; begin(0): 2; write(0, 0, 1): 0; begin(0): 3; write(2, 0, 3): 0; read(3, 0): 3;
                write(1, 0, 2): 0; versionCount(0): 4; version(0, 2, 0): 2; version(0, 2, 1): 0""");
    }

    private static void add() {
        Script.check("promise 6", """
                begin(0): 0; add(0, 7, 5): 5; add(0, 7, -8): -3; operation(0, 0, 0): 2; operation(0, 0, 1): 7;
                operation(0, 0, 2): 5; operation(0, 0, 3): 0; operation(0, 1, 3): 5; versionCount(7): 2;
                eventCount(): 5; event(1, 0): 1; event(2, 0): 2; event(3, 0): 1; event(4, 0): 2; event(4, 2): 7;
                write(0, 6, MAX): 0; add(0, 6, 1): -2147483648; transaction(0, 0): 0; operation(0, 3, 3): 2147483647;
                commit(0): true; check(): 0""");
        Script.check("promise 6: the read of an addition stays if its write aborts", """
                begin(0): 0; begin(0): 1; begin(0): 2; write(0, 2, 6): 0; read(2, 2): 6; add(1, 2, 1): ABORTED;
                version(2, 1, 1): 3; transaction(1, 4): 1; operation(1, 0, 3): 0; eventCount(): 7; event(5, 0): 1;
                event(5, 1): 1; event(5, 2): 2; event(6, 0): 6; event(6, 1): 1; event(6, 2): 2; dependencies(1): 0;
                transaction(2, 0): 0""");
        Script.check("promise 6: the read sets its read timestamp before the write aborts", """
                reset(1): 2; begin(0): 0; begin(0): 1; begin(0): 2; begin(0): 3; write(2, 0, 5): 0; read(3, 0): 5;
                abort(2): 2; write(1, 1, 3): 0; add(3, 1, 1): throws.IllegalStateException; add(0, 1, 2): ABORTED;
                event(9, 0): 6; total(1): 1""");
        Script.check("promise 6: an addition of a restart keeps its earlier result until it is done again", """
                begin(1): 0; begin(2): 1; write(0, 0, 4): 0; add(1, 0, 3): 7; abort(0): 2; operation(1, 0, 3): 4;
                restartNext(): 1; operation(1, 0, 3): 0; version(0, 1, 2): 3; restartNext(): 0""");
    }

    private static void wrongOperations() {
        for (String name : new String[] {"read(%s)", "write(%s, 1)", "add(%s, 1)"}) {
            String twenty = (name.formatted("1, 0") + ": _; ").repeat(20);
            Script.check("wrong " + name, "begin(0): 0; begin(0): 1; begin(0): 2; abort(0): 1; commit(2): true; " + twenty,
                    name.formatted("3, 0") + ": throws.IndexOutOfBoundsException",
                    name.formatted("-1, 0") + ": throws.IndexOutOfBoundsException",
                    name.formatted("16, 0") + ": throws.IndexOutOfBoundsException",
                    name.formatted("1, 8") + ": throws.IndexOutOfBoundsException",
                    name.formatted("1, -1") + ": throws.IndexOutOfBoundsException",
                    name.formatted("0, 8") + ": throws.IndexOutOfBoundsException",
                    name.formatted("0, 0") + ": throws.IllegalStateException",
                    name.formatted("2, 0") + ": throws.IllegalStateException",
                    name.formatted("1, 0") + ": throws.UnsupportedOperationException",
                    "transaction(1, 4): 20; transaction(1, 0): 0; commit(1): true",
                    name.formatted("1, 0") + ": throws.IllegalStateException");
        }
        Script.check("a pending transaction does no operations", """
                begin(0): 0; begin(0): 1; write(0, 0, 1): 0; read(1, 0): 1; commit(1): false;
                read(1, 0): throws.IllegalStateException; write(1, 0, 1): throws.IllegalStateException;
                add(1, 0, 1): throws.IllegalStateException; commit(1): throws.IllegalStateException""");
    }

    private static void commit() {
        Script.check("promise 7: pending ones follow by timestamp", """
                begin(0): 0; begin(9): 1; begin(0): 2; begin(0): 3; begin(0): 4; abort(1): 1; restartNext(): 1;
                write(0, 0, 5): 0; read(1, 0): 5; read(2, 0): 5; write(2, 1, 6): 0; read(3, 1): 6; read(4, 0): 5;
                commit(3): false; commit(1): false; commit(2): false; transaction(2, 0): 1; dependencies(3): 4;
                commit(0): true; transaction(1, 0): 2; transaction(2, 0): 2; transaction(3, 0): 2; transaction(4, 0): 0;
                eventCount(): 20; event(13, 0): 4; event(13, 1): 3; event(13, 2): -1; event(16, 0): 5; event(16, 1): 0;
                event(17, 1): 2; event(18, 1): 3; event(19, 1): 1; event(19, 2): -1; total(5): 4; total(4): 3;
                dependencies(4): 0; check(): 0""");
        Script.check("promise 7: a pending writer is uncommitted", """
                begin(0): 0; begin(0): 1; begin(0): 2; write(0, 0, 5): 0; add(1, 0, 1): 6; commit(1): false; read(2, 0): 6;
                dependencies(2): 2; version(0, 2, 4): 0; commit(2): false; commit(0): true; transaction(2, 0): 2;
                version(0, 2, 4): 1""");
        Script.check("promise 7: transaction 0 waits like others", """
                begin(0): 0; begin(0): 1; begin(0): 2; abort(0): 1; restartNext(): 0; write(1, 0, 5): 0; read(0, 0): 5; read(2, 0): 5;
                dependencies(0): 2; commit(0): false; commit(2): false; commit(1): true; dependencies(0): 0; transaction(0, 0): 2;
                eventCount(): 13; event(10, 1): 1; event(11, 1): 2; event(12, 1): 0; check(): 0""");
        Script.check("promise 7: transaction 0 goes before later timestamps", """
                begin(0): 0; begin(0): 1; begin(9): 2; begin(0): 3; abort(2): 1; abort(0): 1; write(1, 0, 5): 0; restartNext(): 2;
                restartNext(): 0; abort(2): 1; restartNext(): 2; abort(3): 1; restartNext(): 3; read(3, 0): 5; read(2, 0): 5;
                read(0, 0): 5; commit(3): false; commit(2): false; commit(0): false; commit(1): true; event(19, 1): 1;
                event(20, 1): 0; event(21, 1): 2; event(22, 1): 3; eventCount(): 23""");
        Script.check("promise 7: wrong calls", """
                commit(0): throws.IndexOutOfBoundsException; begin(0): 0; commit(-1): throws.IndexOutOfBoundsException;
                commit(1): throws.IndexOutOfBoundsException; commit(0): true; commit(0): throws.IllegalStateException;
                begin(0): 1; abort(1): 1; commit(1): throws.IllegalStateException; total(5): 1""");
    }

    private static void abort() {
        Script.check("promise 8: depth first, by number", """
                begin(0): 0; begin(0): 1; begin(0): 2; begin(0): 3; begin(0): 4; write(0, 0, 1): 0; add(1, 0, 1): 2;
                read(3, 0): 2; read(2, 1): 0; write(1, 2, 7): 0; write(0, 3, 9): 0; read(2, 3): 9; read(4, 1): 0;
                commit(3): false; cascade(0): 15; abort(0): 4; eventCount(): 19; event(15, 0): 6; event(15, 1): 0;
                event(15, 2): -1; event(16, 0): 7; event(16, 1): 1; event(16, 2): -1; event(17, 0): 7; event(17, 1): 3;
                event(18, 1): 2; transaction(3, 0): 3; transaction(4, 0): 0; versionCount(0): 1; versionCount(2): 1;
                total(6): 1; total(7): 3; transaction(1, 3): 1; dependencies(1): 0; dependencies(3): 0;
                version(1, 0, 1): 5; version(0, 0, 1): 0""");
        StringBuilder chain = new StringBuilder();
        for (int number = 0; number < 16; number++) {
            chain.append("begin(0): ").append(number).append("; add(").append(number).append(", 0, 1): ").append(number + 1).append("; ");
        }
        Script.check("promise 8: a chain of 16", chain.toString(), """
                cascade(0): 65535; dependencies(15): 16384; abort(0): 16; versionCount(0): 1; total(7): 15; event(49, 1): 15;
                transaction(15, 0): 3; abortShare(): 1.0""");
        Script.check("promise 8: wrong calls", """
                abort(0): throws.IndexOutOfBoundsException; begin(0): 0; begin(0): 1; abort(2): throws.IndexOutOfBoundsException;
                abort(-1): throws.IndexOutOfBoundsException; abort(0): 1; abort(0): throws.IllegalStateException;
                commit(1): true; abort(1): throws.IllegalStateException; total(6): 1""");
        Script.check("promise 8: a pending transaction can be aborted", """
                begin(0): 0; begin(0): 1; write(0, 0, 1): 0; read(1, 0): 1; commit(1): false; abort(1): 1;
                transaction(1, 0): 3; commit(0): true; transaction(1, 0): 3""");
    }

    private static void restart() {
        Script.check("promise 9: the choice", """
                begin(3): 0; begin(5): 1; begin(5): 2; begin(5): 3; abort(0): 1; abort(2): 1; abort(3): 1; abort(1): 1;
                restartNext(): 1; abort(1): 1; restartNext(): 1; restartNext(): 2; restartNext(): 3; restartNext(): 0;
                restartNext(): throws.NoSuchElementException; transaction(1, 1): 6; transaction(0, 1): 9;
                transaction(1, 3): 2; total(8): 5; horizon(): 6""");
        Script.check("promise 9: the number of aborts goes before the number", """
                begin(5): 0; begin(5): 1; abort(1): 1; restartNext(): 1; abort(1): 1; abort(0): 1; restartNext(): 1;
                restartNext(): 0""");
        Script.check("promise 9: the operations again", """
                begin(1): 0; begin(0): 1; write(0, 0, 4): 0; add(0, 1, 3): 3; read(0, 0): 4; abort(0): 1; write(1, 1, 10): 0;
                versionCount(0): 1; restartNext(): 0; transaction(0, 0): 0; transaction(0, 1): 3; transaction(0, 4): 3;
                versionCount(0): 2; version(0, 1, 0): 3; version(0, 1, 1): 3; version(1, 2, 2): 13; operation(0, 1, 3): 10;
                dependencies(0): 2; eventCount(): 13; event(8, 0): 8; event(8, 1): 0; event(8, 2): -1; event(9, 0): 2;
                event(10, 0): 1; event(11, 0): 2; event(12, 0): 1; event(12, 2): 0; commit(0): false; commit(1): true;
                check(): 0""");
        Script.check("promise 9: no commit at the end of a restart", """
                begin(1): 0; text('w0=3 c'): 6; begin(0): 1; write(1, 0, 1): 0; run(0): 1; transaction(0, 0): 2;
                begin(1): 2; read(2, 0): 1; commit(2): false; abort(1): 2; restartNext(): 2; transaction(2, 0): 0;
                operation(2, 0, 3): 3""");
        Script.check("promise 9: nothing to restart", """
                restartNext(): throws.NoSuchElementException; begin(1): 0; restartNext(): throws.NoSuchElementException;
                commit(0): true; restartNext(): throws.NoSuchElementException; horizon(): 2""");
    }
}
