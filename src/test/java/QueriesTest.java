/** Promises 13 to 27: questions about transactions, items, events and statistics, and collect. */
public final class QueriesTest {
    public static void main(String[] args) {
        transactions();
        dependenciesAndCascade();
        operations();
        versions();
        valueAt();
        collectAndHorizon();
        check();
        events();
        totals();
        abortShare();
        Script.end();
    }

    private static void transactions() {
        Script.check("promise 13", """
                transactionCount(): 0; begin(0): 0; begin(0): 1; transactionCount(): 2; abort(0): 1; commit(1): true;
                transactionCount(): 2; restartNext(): 0; transactionCount(): 2; reset(0): 2; transactionCount(): 0""");
        Script.check("promise 14", """
                begin(7): 0; begin(2): 1; write(0, 0, 1): 0; read(1, 0): 1; read(1, 1): 0; commit(1): false;
                transaction(0, 0): 0; transaction(1, 0): 1; transaction(1, 1): 2; transaction(0, 2): 7; transaction(1, 2): 2;
                transaction(1, 3): 0; transaction(0, 4): 1; transaction(1, 4): 2; abort(0): 2; transaction(0, 0): 3;
                transaction(1, 3): 1; transaction(1, 1): 2; restartNext(): 0; transaction(0, 1): 3; transaction(0, 3): 1;
                commit(0): true; transaction(0, 0): 2""");
        Script.check("promise 14: wrong calls", """
                transaction(0, 0): throws.IndexOutOfBoundsException; begin(0): 0; transaction(1, 0): throws.IndexOutOfBoundsException;
                transaction(-1, 9): throws.IndexOutOfBoundsException; transaction(0, 5): throws.IllegalArgumentException;
                transaction(0, -1): throws.IllegalArgumentException; transaction(MAX, 0): throws.IndexOutOfBoundsException""");
    }

    private static void dependenciesAndCascade() {
        Script.check("promises 15 and 16", """
                begin(0): 0; begin(0): 1; begin(0): 2; begin(0): 3; write(0, 0, 1): 0; write(1, 1, 1): 0; read(2, 0): 1;
                read(2, 1): 1; add(2, 2, 4): 4; read(3, 2): 4; dependencies(0): 0; dependencies(2): 3; dependencies(3): 4;
                cascade(0): 13; cascade(1): 14; cascade(2): 12; cascade(3): 8; commit(2): false; dependencies(2): 3;
                commit(0): true; dependencies(2): 2; cascade(0): 0; cascade(1): 14; abort(1): 3; cascade(1): 0; cascade(2): 0;
                dependencies(2): 0; dependencies(3): 0; transactionCount(): 4""");
        Script.check("promise 16: a dependency on a greater number", """
                begin(0): 0; begin(0): 1; abort(0): 1; restartNext(): 0; write(1, 0, 1): 0; read(0, 0): 1; dependencies(0): 2;
                cascade(1): 3; begin(0): 2; write(0, 1, 5): 0; read(2, 1): 5; cascade(1): 7; abort(1): 3; event(10, 1): 0;
                event(11, 1): 2""");
        Script.check("promises 15 and 16: wrong calls", """
                dependencies(0): throws.IndexOutOfBoundsException; cascade(0): throws.IndexOutOfBoundsException; begin(0): 0;
                dependencies(-1): throws.IndexOutOfBoundsException; cascade(-1): throws.IndexOutOfBoundsException;
                dependencies(1): throws.IndexOutOfBoundsException; cascade(1): throws.IndexOutOfBoundsException""");
    }

    private static void operations() {
        Script.check("promise 17", """
                begin(0): 0; write(0, 3, -7): 0; read(0, 3): -7; add(0, 3, 9): 2; operation(0, 0, 0): 1; operation(0, 0, 1): 3;
                operation(0, 0, 2): -7; operation(0, 0, 3): 0; operation(0, 1, 0): 0; operation(0, 1, 1): 3;
                operation(0, 1, 2): 0; operation(0, 1, 3): -7; operation(0, 2, 0): 2; operation(0, 2, 2): 9;
                operation(0, 2, 3): -7; operation(0, 3, 0): throws.IndexOutOfBoundsException;
                operation(0, -1, 0): throws.IndexOutOfBoundsException; operation(1, 0, 0): throws.IndexOutOfBoundsException;
                operation(-1, 0, 0): throws.IndexOutOfBoundsException; operation(0, 3, 4): throws.IndexOutOfBoundsException;
                operation(0, 2, 4): throws.IllegalArgumentException; operation(0, 2, -1): throws.IllegalArgumentException""");
    }

    private static void versions() {
        Script.check("promises 18 and 19", """
                begin(0): 0; begin(0): 1; write(1, 2, 5): 0; versionCount(2): 2; versionCount(1): 1; version(2, 1, 0): 2;
                version(2, 1, 1): 0; version(2, 1, 2): 5; version(2, 1, 3): 1; version(2, 1, 4): 0; commit(1): true;
                version(2, 1, 4): 1; version(2, 0, 4): 1; version(2, 0, 3): -1; write(0, 2, 6): 0; version(2, 1, 3): 0;
                version(2, 2, 3): 1; version(2, 1, 4): 0; version(2, 2, 4): 1; abort(0): 1; versionCount(2): 2;
                version(2, 1, 3): 1""");
        Script.check("promises 18 and 19: wrong calls", """
                versionCount(-1): throws.IndexOutOfBoundsException; versionCount(8): throws.IndexOutOfBoundsException;
                version(8, 0, 0): throws.IndexOutOfBoundsException; version(-1, 0, 0): throws.IndexOutOfBoundsException;
                version(0, 1, 0): throws.IndexOutOfBoundsException; version(0, -1, 0): throws.IndexOutOfBoundsException;
                version(0, 1, 5): throws.IndexOutOfBoundsException; version(0, 0, 5): throws.IllegalArgumentException;
                version(0, 0, -1): throws.IllegalArgumentException""");
        StringBuilder all = new StringBuilder();
        for (int number = 0; number < 16; number++) {
            all.append("begin(0): ").append(number).append("; write(").append(number).append(", 0, 1): 0; ");
        }
        Script.check("promise 18: 17 versions", all.toString(), """
                versionCount(0): 17; version(0, 16, 3): 15; abort(7): 1; versionCount(0): 16; version(0, 7, 3): 6;
                version(0, 8, 3): 8; restartNext(): 7; versionCount(0): 17; version(0, 16, 3): 7""");
    }

    private static void valueAt() {
        Script.check("promise 20", """
                begin(0): 0; begin(0): 1; begin(0): 2; write(0, 0, 5): 0; write(1, 0, 6): 0; write(2, 0, 7): 0; valueAt(0, 9): 0;
                commit(1): true; valueAt(0, 0): 0; valueAt(0, 1): 0; valueAt(0, 2): 6; valueAt(0, 3): 6; valueAt(0, MAX): 6;
                valueAt(0, -1): throws.NoSuchElementException; valueAt(0, MIN): throws.NoSuchElementException;
                valueAt(8, 0): throws.IndexOutOfBoundsException; valueAt(-1, -1): throws.IndexOutOfBoundsException;
                commit(0): true; commit(2): true; collect(): 3; valueAt(0, 2): throws.NoSuchElementException;
                valueAt(0, 3): 7""");
    }

    private static void collectAndHorizon() {
        Script.check("promises 21 and 22", """
                horizon(): 1; begin(0): 0; horizon(): 1; begin(0): 1; begin(0): 2; begin(0): 3; write(0, 0, 5): 0; write(1, 0, 6): 0;
                write(3, 0, 8): 0; write(3, 1, 8): 0; collect(): 0; commit(1): true; collect(): 0; commit(0): true; horizon(): 3;
                collect(): 2; collect(): 0; versionCount(0): 2; version(0, 0, 0): 2; version(0, 0, 2): 6; version(0, 0, 3): 1;
                version(0, 1, 2): 8; commit(3): true; collect(): 0; abort(2): 1; horizon(): 5; collect(): 2; versionCount(0): 1;
                versionCount(1): 1; restartNext(): 2; horizon(): 5; begin(0): 4; horizon(): 5; eventCount(): 14; check(): 0""");
        Script.check("promise 22: pending counts as uncommitted", """
                begin(0): 0; begin(0): 1; begin(0): 2; abort(0): 1; write(1, 0, 1): 0; read(2, 0): 1; commit(2): false; horizon(): 2;
                restartNext(): 0; commit(1): true; horizon(): 4""");
        Script.check("promise 21: read timestamps go with their versions", """
                reset(0): 2; begin(0): 0; begin(0): 1; begin(0): 2; read(2, 0): 0; write(2, 0, 4): 0; commit(2): true;
                commit(0): true; collect(): 0; commit(1): true; collect(): 1; version(0, 0, 1): 0""");
    }

    /** The protocols keep the answer at 0, so these fail if the serial execution is done in a wrong way. */
    private static void check() {
        Script.check("promise 23: multiversion is serial", """
                check(): 0; begin(0): 0; begin(0): 1; write(1, 0, 5): 0; read(0, 0): 0; commit(1): true; add(0, 1, 2): 2;
                check(): 0; commit(0): true; check(): 0; collect(): 2; check(): 0""");
        Script.check("promise 23: the order is that of the timestamps, not of the commits", """
                begin(0): 0; begin(0): 1; write(1, 0, 5): 0; write(0, 0, 3): 0; commit(1): true; commit(0): true; check(): 0;
                begin(0): 2; read(2, 0): 5; write(2, 0, 5): 0; commit(2): true; check(): 0; begin(0): 3; read(3, 0): 5;
                begin(0): 4; write(4, 0, 1): 0; check(): 0""");
        Script.check("promise 23: pending ones are left out", """
                begin(0): 0; add(0, 0, 5): 5; begin(0): 1; add(1, 0, 5): 10; commit(1): false; check(): 0; commit(0): true;
                check(): 0; operation(1, 0, 3): 5""");
        Script.check("promise 23: an obsolete write is not the last version", """
                reset(1): 2; begin(0): 0; begin(0): 1; write(1, 0, 9): 0; write(0, 0, 4): 1; commit(1): true; commit(0): true;
                check(): 0; begin(0): 2; read(2, 0): 9; check(): 0; commit(2): true; check(): 0""");
        Script.check("promise 23: an aborted write is left out", """
                reset(1): 2; begin(0): 0; begin(0): 1; begin(0): 2; begin(0): 3; write(1, 0, 6): 0; commit(1): true;
                begin(0): 4; read(4, 0): 6; commit(4): true; write(2, 0, 1): ABORTED; check(): 0""");
    }

    private static void events() {
        Script.check("promises 24 and 25", """
                eventCount(): 0; event(0, 0): throws.IndexOutOfBoundsException; begin(0): 0; read(0, 5): 0; eventCount(): 2;
                event(0, 0): 0; event(0, 1): 0; event(0, 2): -1; event(1, 0): 1; event(1, 1): 0; event(1, 2): 5;
                event(2, 0): throws.IndexOutOfBoundsException; event(-1, 0): throws.IndexOutOfBoundsException;
                event(0, 3): throws.IndexOutOfBoundsException; event(0, -1): throws.IndexOutOfBoundsException;
                event(MAX, 0): throws.IndexOutOfBoundsException""");
        Script.check("promises 24 and 25: the latest 50", "begin(0): 0; begin(0): 1", """
                read(0, 0): 0; read(0, 0): 0; read(0, 0): 0; read(0, 0): 0; read(0, 0): 0; read(0, 0): 0; read(0, 0): 0;
                read(0, 0): 0; read(0, 0): 0; read(0, 0): 0; read(0, 0): 0; read(0, 0): 0; read(0, 0): 0; read(0, 0): 0;
                abort(0): 1; restartNext(): 0; eventCount(): 32; abort(0): 1; restartNext(): 0; eventCount(): 48;
                commit(1): true; eventCount(): 49; event(0, 0): 0; read(0, 7): 0; eventCount(): 50; event(0, 0): 0;
                event(0, 1): 0; read(0, 6): 0; eventCount(): 50; event(0, 0): 0; event(0, 1): 1; event(49, 2): 6;
                event(48, 2): 7; event(50, 0): throws.IndexOutOfBoundsException; read(0, 5): 0; event(0, 0): 1;
                event(49, 2): 5; event(47, 2): 7; event(46, 0): 5; total(1): 45; total(0): 2; total(8): 2""");
    }

    private static void totals() {
        Script.check("promise 26", """
                total(-1): throws.IllegalArgumentException; total(9): throws.IllegalArgumentException; total(8): 0; reset(1): 2;
                begin(1): 0; begin(0): 1; begin(0): 2; write(1, 0, 5): 0; write(0, 0, 4): 1; add(1, 0, 1): 6; read(2, 0): 6;
                commit(2): false; abort(1): 2; restartNext(): 1; commit(0): true; total(0): 3; total(1): 3; total(2): 4;
                total(3): 1; total(4): 1; total(5): 1; total(6): 1; total(7): 1; total(8): 1; reset(1): 1; total(2): 0""");
    }

    private static void abortShare() {
        Script.check("promise 27", """
                abortShare(): throws.ArithmeticException; begin(0): 0; abortShare(): 0.0; abort(0): 1; abortShare(): 1.0;
                restartNext(): 0; abortShare(): 0.5; write(0, 0, 1): 0; begin(0): 1; read(1, 0): 1; abort(0): 2;
                abortShare(): 1.0; begin(0): 2; abortShare(): 0.75; reset(2): 2; abortShare(): throws.ArithmeticException""");
    }
}
