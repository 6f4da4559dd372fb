/** Promises 28 to 34: allocate, export, divide, cloneRow, copyRow, snapshot, restore. */
public final class RowsAndSnapshotTest {
    public static void main(String[] args) {
        allocate();
        export();
        divide();
        cloneRow();
        copyRow();
        snapshot();
        Script.end();
    }

    private static void allocate() {
        Script.check("promise 28", """
                allocate(3, 0, 1): throws.IndexOutOfBoundsException; allocate(-1, 5, 1): throws.IndexOutOfBoundsException;
                allocate(0, 2, 1): throws.IllegalArgumentException; allocate(0, -1, 1): throws.IllegalArgumentException;
                allocate(0, 0, -1): throws.IllegalArgumentException; allocate(0, 1, 31): throws.IllegalArgumentException;
                cloneRow(0, 0): throws.IllegalStateException; allocate(0, 0, 30): nothing; cloneRow(0, 0): 30;
                divide(0, 29, 1): 0.0; divide(0, 30, 1): throws.NoSuchElementException; allocate(2, 1, 0): nothing;
                cloneRow(2, 2): 0; divide(2, 0, 1): throws.NoSuchElementException""");
        Script.check("promise 28: the first element, too", """
                begin(0): 0; write(0, 0, 8): 0; commit(0): true; collect(): 1; allocate(1, 0, 1): nothing; export(1, 0): 1;
                divide(1, 0, 1): 8.0; allocate(1, 0, 1): nothing; divide(1, 0, 1): 0.0; allocate(1, 1, 1): nothing; export(1, 0): 1;
                allocate(1, 1, 1): nothing; divide(1, 0, 1): 0.0""");
        Script.check("promise 28: a new row is filled with 0", """
                begin(0): 0; write(0, 0, 8): 0; allocate(1, 1, 2): nothing; export(1, 0): 2; divide(1, 1, 1): 8.0;
                allocate(1, 1, 2): nothing; divide(1, 1, 1): 0.0; allocate(1, 0, 2): nothing; export(1, 0): 2;
                allocate(1, 0, 3): nothing; divide(1, 1, 1): 0.0; allocate(1, 0, 31): throws.IllegalArgumentException;
                cloneRow(1, 1): 3""");
    }

    private static void export() {
        Script.check("promise 29", """
                begin(0): 0; begin(0): 1; write(1, 4, 16777217): 0; write(0, 4, -6): 0; allocate(0, 0, 4): nothing;
                allocate(1, 1, 3): nothing; export(0, 4): 3; export(1, 4): 3; divide(0, 0, 1): 0.0; divide(0, 1, 1): -6.0;
                divide(0, 2, 1): 1.6777216E7; divide(0, 3, 1): 0.0; divide(1, 2, 8388608): 2.0; divide(1, 1, 1): -6.0;
                export(1, 4): 3; divide(1, 2, 16777217): 1.0""");
        Script.check("promise 29: the rest of a longer row stays", """
                begin(0): 0; write(0, 0, 5): 0; allocate(0, 1, 3): nothing; export(0, 0): 2; commit(0): true; collect(): 1;
                begin(0): 1; write(1, 0, 7): 0; abort(1): 1; export(0, 1): 1; divide(0, 0, 1): 0.0; divide(0, 1, 1): 5.0;
                export(0, 0): 1; divide(0, 0, 1): 5.0""");
        Script.check("promise 29: wrong calls", """
                export(3, 0): throws.IndexOutOfBoundsException; export(-1, 0): throws.IndexOutOfBoundsException;
                export(0, 8): throws.IndexOutOfBoundsException; export(0, -1): throws.IndexOutOfBoundsException;
                export(0, 0): throws.IllegalStateException; allocate(0, 1, 0): nothing;
                export(0, 0): throws.IndexOutOfBoundsException; begin(0): 0; begin(0): 1; write(0, 0, 4): 0; write(1, 0, 5): 0;
                allocate(0, 1, 2): nothing; export(0, 0): throws.IndexOutOfBoundsException; divide(0, 1, 1): 4.0;
                divide(0, 0, 1): 0.0; export(1, 0): throws.IllegalStateException""");
    }

    private static void divide() {
        Script.check("promise 30", """
                begin(0): 0; write(0, 0, -7): 0; allocate(0, 0, 2): nothing; allocate(1, 1, 2): nothing; export(0, 0): 2;
                export(1, 0): 2; divide(0, 1, 2): -3.5; divide(0, 1, 2): -1.75; divide(1, 1, 2): -3.0; divide(1, 1, 2): -1.0;
                divide(1, 1, 2): 0.0; divide(0, 0, -3): -0.0; divide(1, 0, -3): 0.0; divide(0, 1, 3): -0.5833333""");
        Script.check("promise 30: the least int", """
                begin(0): 0; write(0, 0, MIN): 0; allocate(0, 0, 2): nothing; allocate(1, 1, 2): nothing; export(0, 0): 2;
                export(1, 0): 2; divide(1, 1, -1): -2.14748365E9; divide(0, 1, -1): 2.14748365E9; divide(0, 1, MIN): -1.0;
                divide(1, 1, MIN): 1.0""");
        Script.check("promise 30: the divisor is converted to float first", """
                begin(0): 0; write(0, 0, 16777216): 0; allocate(0, 0, 2): nothing; export(0, 0): 2; divide(0, 1, 16777217): 1.0""");
        Script.check("promise 30: wrong calls", """
                divide(3, 9, 0): throws.IndexOutOfBoundsException; divide(-1, 0, 1): throws.IndexOutOfBoundsException;
                divide(0, 9, 0): throws.IllegalStateException; allocate(0, 0, 1): nothing; divide(0, 9, 0): throws.ArithmeticException;
                divide(0, 0, 0): throws.ArithmeticException; divide(0, 1, 1): throws.NoSuchElementException;
                divide(0, -1, 1): throws.NoSuchElementException; allocate(0, 1, 1): nothing;
                divide(0, 0, 0): throws.ArithmeticException; divide(0, 1, 1): throws.NoSuchElementException""");
    }

    private static void cloneRow() {
        Script.check("promise 31", """
                begin(0): 0; write(0, 0, 6): 0; allocate(0, 1, 2): nothing; export(0, 0): 2; allocate(1, 0, 9): nothing;
                cloneRow(0, 1): 2; divide(1, 1, 4): 1.0; divide(0, 1, 1): 6.0; divide(1, 2, 1): throws.NoSuchElementException;
                cloneRow(0, 0): 2; divide(0, 1, 1): 6.0; cloneRow(0, 2): 2; divide(0, 1, 6): 1.0; divide(2, 1, 1): 6.0""");
        Script.check("promise 31: wrong calls", """
                cloneRow(3, 0): throws.IndexOutOfBoundsException; cloneRow(0, 3): throws.IndexOutOfBoundsException;
                cloneRow(-1, 0): throws.IndexOutOfBoundsException; cloneRow(0, -1): throws.IndexOutOfBoundsException;
                cloneRow(0, 1): throws.IllegalStateException; allocate(1, 0, 4): nothing; cloneRow(0, 1): throws.IllegalStateException;
                cloneRow(1, 1): 4""");
    }

    private static void copyRow() {
        Script.check("promise 32", """
                begin(0): 0; write(0, 0, 6): 0; begin(0): 1; write(1, 1, 3): 0; begin(0): 2; write(2, 1, 9): 0; commit(0): true;
                allocate(0, 1, 2): nothing; allocate(1, 1, 3): nothing; export(0, 0): 2; export(1, 1): 3; copyRow(0, 1): 2;
                divide(1, 0, 1): 0.0; divide(1, 1, 1): 6.0; divide(1, 2, 1): 9.0; cloneRow(1, 1): 3; copyRow(0, 0): 2;
                divide(0, 1, 2): 3.0; divide(1, 1, 1): 6.0; copyRow(1, 0): throws.NoSuchElementException; divide(0, 1, 1): 3.0;
                allocate(2, 1, 0): nothing; copyRow(2, 0): 0; divide(0, 1, 1): 3.0""");
        Script.check("promise 32: floats", """
                begin(0): 0; write(0, 0, 7): 0; allocate(0, 0, 2): nothing; export(0, 0): 2; divide(0, 1, 2): 3.5;
                allocate(2, 0, 3): nothing; copyRow(0, 2): 2; divide(2, 1, 1): 3.5; divide(2, 2, 1): 0.0""");
        Script.check("promise 32: wrong calls", """
                copyRow(3, 0): throws.IndexOutOfBoundsException; copyRow(0, 3): throws.IndexOutOfBoundsException;
                copyRow(-1, 0): throws.IndexOutOfBoundsException; copyRow(0, -1): throws.IndexOutOfBoundsException;
                copyRow(0, 1): throws.IllegalStateException; allocate(0, 0, 4): nothing; copyRow(0, 1): throws.IllegalStateException;
                copyRow(1, 0): throws.IllegalStateException; allocate(1, 1, 2): nothing; copyRow(0, 1): throws.IllegalArgumentException;
                allocate(1, 0, 2): nothing; copyRow(0, 1): throws.NoSuchElementException; copyRow(1, 0): 2""");
    }

    private static void snapshot() {
        Script.check("promises 33 and 34", """
                restore(): throws.IllegalStateException; snapshot(): 0; reset(1): 2; begin(4): 0; begin(6): 1; write(1, 0, 7): 0;
                write(0, 0, 3): 1; read(1, 0): 7; snapshot(): 2; commit(0): true; abort(1): 1; begin(0): 2; restartNext(): 1;
                collect(): 1; write(1, 0, 2): 0; reset(0): 1; restore(): 2; transactionCount(): 2; transaction(0, 0): 0;
                transaction(1, 1): 2; transaction(1, 2): 6; transaction(1, 3): 0; transaction(1, 4): 2; operation(1, 1, 3): 7;
                versionCount(0): 3; version(0, 1, 2): 3; version(0, 2, 1): 2; version(0, 0, 0): 0; eventCount(): 5;
                event(3, 0): 3; total(0): 2; total(8): 0; total(6): 0; horizon(): 1; abortShare(): 0.0; begin(0): 2;
                transaction(2, 1): 3; abort(2): 1; restore(): 2; transactionCount(): 2; reset(2): 1""");
        Script.check("promises 33 and 34: dependencies are restored", """
                begin(0): 0; begin(0): 1; write(0, 0, 1): 0; read(1, 0): 1; commit(1): false; snapshot(): 2; commit(0): true;
                restore(): 2; dependencies(1): 1; transaction(1, 0): 1; cascade(0): 3; commit(0): true; transaction(1, 0): 2;
                restore(): 2; abort(0): 2; total(7): 1; total(5): 0""");
        Script.check("promises 33 and 34: operations, versions and events come back after others took their places", """
                begin(0): 0; write(0, 1, 5): 0; add(0, 1, 2): 7; read(0, 2): 0; commit(0): true; begin(0): 1; snapshot(): 2;
                reset(0): 2; begin(0): 0; begin(0): 1; begin(0): 2; read(0, 3): 0; write(2, 1, 8): 0; write(2, 0, 8): 0; read(2, 1): 8;
                restore(): 2; operation(0, 0, 0): 1; operation(0, 1, 1): 1; operation(0, 0, 2): 5; operation(0, 1, 3): 5;
                operation(0, 2, 1): 2; version(1, 1, 0): 1; version(1, 1, 1): 1; version(1, 1, 2): 7; version(1, 1, 3): 0;
                versionCount(0): 1; version(2, 0, 1): 1; event(1, 0): 2; event(1, 1): 0; event(1, 2): 1; event(2, 0): 1;
                event(4, 2): 2; event(5, 0): 5; eventCount(): 7; check(): 0""");
        Script.check("promises 33 and 34: results are restored", """
                begin(0): 0; begin(9): 1; write(0, 0, 5): 0; read(1, 0): 5; snapshot(): 2; abort(0): 2; restartNext(): 1;
                operation(1, 0, 3): 0; restore(): 2; operation(1, 0, 3): 5; dependencies(1): 1""");
        Script.check("promises 33 and 34: the oldest event is restored", "begin(0): 0", "read(0, 1): 0; ".repeat(20), """
                abort(0): 1; restartNext(): 0; snapshot(): 1""", "begin(0): 1; " + "read(1, 2): 0; ".repeat(20), """
                eventCount(): 50; event(0, 0): 1; event(0, 2): 1; event(49, 2): 2; restore(): 1; eventCount(): 43; event(0, 0): 0;
                event(42, 2): 1; event(21, 0): 6; event(22, 0): 8; total(1): 40""");
        Script.check("promises 33 and 34: what is not in the snapshot", """
                snapshot(): 0; begin(0): 0; text('rr'): 2; run(0): throws.IllegalArgumentException; text('c'): 1;
                allocate(0, 1, 3): nothing; restore(): 0; errorPosition(): 1; append(99): 2; cloneRow(0, 0): 3""");
    }
}
