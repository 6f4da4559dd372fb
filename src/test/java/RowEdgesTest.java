/** The boundary cases of rows and of the snapshot, promises 28 to 34. */
public final class RowEdgesTest {
    /** Item 0 has the versions 0, -7, MAX and MIN; item 1 has 17 versions, of which the last is 16. */
    private static final String VALUES = Script.numbered(0, 15, "begin(0): %1$d; write(%1$d, 1, %2$d): 0; ") + "write(0, 0, -7): 0; "
            + "write(1, 0, MAX): 0; write(2, 0, MIN): 0; ";

    public static void main(String[] args) {
        threeSlots();
        types();
        lengths();
        export();
        shortRows();
        divideInts();
        divideFloats();
        refusedDivisions();
        cloneRow();
        copyRow();
        snapshot();
        fullSnapshot();
        restore();
        Script.end();
    }

    private static void threeSlots() {
        for (int slot = 0; slot < 3; slot++) {
            StringBuilder others = new StringBuilder();
            for (int other = 0; other < 3; other++) {
                others.append(other == slot ? "" : "cloneRow(" + other + ", " + other + "): !IllegalState; ");
            }
            Script.check("There are 3 slots for rows, numbered from 0: slot " + slot, ("cloneRow(N, N): !IllegalState; "
                    + "allocate(N, 1, 4): nothing; cloneRow(N, N): 4; copyRow(N, N): 4;"
                    + "export(N, 0): 1; divide(N, 3, 1): 0.0;").replace("N", String.valueOf(slot)), others.toString());
        }
        for (String slot : new String[] {"-1", "3", "MIN", "MAX"}) {
            Script.refused("There is no slot " + slot, "allocate(0, 0, 2): nothing; allocate(1, 1, 3): nothing; "
                    + "allocate(2, 1, 30): nothing", """
                    allocate(S, 0, 1): !IndexOutOfBounds; allocate(S, 2, 1): !IndexOutOfBounds; allocate(S, 0, 31): !IndexOutOfBounds;
                    export(S, 0): !IndexOutOfBounds;
                    export(S, 8): !IndexOutOfBounds; divide(S, 0, 1): !IndexOutOfBounds; divide(S, 9, 0): !IndexOutOfBounds;
                    cloneRow(S, 0): !IndexOutOfBounds;
                    cloneRow(0, S): !IndexOutOfBounds; cloneRow(S, S): !IndexOutOfBounds; copyRow(S, 0): !IndexOutOfBounds;
                    copyRow(0, S): !IndexOutOfBounds;
                    copyRow(S, S): !IndexOutOfBounds""".replace("(S", "(" + slot).replace(", S", ", " + slot));
        }
        Script.refused("A slot is empty, as all are at first", "allocate(1, 0, 2): nothing", """
                export(0, 0): !IllegalState; export(2, 7): !IllegalState; divide(0, 0, 1): !IllegalState; divide(2, 0, 1): !IllegalState;
                cloneRow(0, 1): !IllegalState;
                cloneRow(2, 1): !IllegalState; cloneRow(0, 0): !IllegalState; copyRow(0, 1): !IllegalState; copyRow(1, 0): !IllegalState;
                copyRow(0, 2): !IllegalState;
                copyRow(2, 2): !IllegalState""");
    }

    private static void types() {
        Script.check("a row of floats (type 0) or of ints (type 1)", VALUES, "allocate(0, 0, 4): nothing; allocate(1, 1, 4): nothing; "
                + "export(0, 0): 4; export(1, 0): 4; divide(0, 1, 2): -3.5; divide(1, 1, 2): -3.0");
        Script.refused("the type is out of range", "allocate(0, 1, 3): nothing", "allocate(0, -1, 2): !IllegalArgument; "
                + "allocate(0, 2, 2): !IllegalArgument; allocate(0, MIN, 2): !IllegalArgument; allocate(0, MAX, 2): !IllegalArgument; "
                + "allocate(0, 2, 31): !IllegalArgument");
    }

    private static void lengths() {
        for (int type = 0; type < 2; type++) {
            Script.check("at most 30 elements: 30, type " + type, "allocate(0, " + type + ", 30): nothing; cloneRow(0, 0): 30; "
                    + "divide(0, 29, 1): 0.0; divide(0, 30, 1): !NoSuchElement;" + Script.numbered(0, 29, "divide(0, %1$d, 1): 0.0; "));
            Script.check("a row of 1 element, type " + type, "allocate(0, " + type + ", 1): nothing; cloneRow(0, 0): 1; "
                    + "divide(0, 0, 1): 0.0; divide(0, 1, 1): !NoSuchElement");
            Script.check("a row of no elements, type " + type, "allocate(0, " + type + ", 0): nothing; cloneRow(0, 1): 0; "
                    + "copyRow(0, 1): 0; copyRow(0, 0): 0; divide(0, 0, 1): !NoSuchElement; divide(1, 0, 1): !NoSuchElement; "
                    + "export(0, 0): !IndexOutOfBounds");
            Script.refused("the length is negative or above 30, type " + type, "allocate(0, 0, 3): nothing",
                    ("allocate(0, T, -1): !IllegalArgument; allocate(0, T, 31): !IllegalArgument; allocate(1, T, 31): !IllegalArgument; "
                    + "allocate(2, T, MIN): !IllegalArgument; allocate(2, T, MAX): !IllegalArgument").replace("T", String.valueOf(type)));
            Script.check("a new row, filled with 0, in place of the old one, type " + type, VALUES, ("allocate(0, T, 30): nothing; "
                    + "export(0, 1): 17; divide(0, 16, 1): 16.0; allocate(0, T, 30): nothing;" + Script.numbered(0, 29,
                    "divide(0, %1$d, 1): 0.0; ")
                    + "export(0, 1): 17; allocate(0, T, 2): nothing; divide(0, 1, 1): 0.0; "
                    + "divide(0, 2, 1): !NoSuchElement").replace("T", String.valueOf(type)));
        }
        for (int type = 0; type < 2; type++) {
            Script.check("the first element is set and filled with 0 like the others, type " + type, ("begin(0): 0; write(0, 0, 8): 0; "
                    + "commit(0): true; collect(): 1; allocate(1, T, 1): nothing;"
                    + "export(1, 0): 1; divide(1, 0, 1): 8.0; allocate(1, T, 1): nothing; "
                    + "divide(1, 0, 1): 0.0").replace("T", String.valueOf(type)));
        }
        Script.check("a new row of the other type is filled with 0, too", VALUES, "allocate(0, 1, 17): nothing; export(0, 1): 17; "
                + "allocate(0, 0, 17): nothing; divide(0, 16, 1): 0.0; export(0, 1): 17; allocate(0, 1, 17): nothing; "
                + "divide(0, 16, 1): 0.0");
    }

    private static void export() {
        for (int type = 0; type < 2; type++) {
            String export = VALUES + "allocate(0, " + type + ", L): nothing; ";
            Script.check("the row has as many elements as the item has versions, type " + type, export.replace("L", "17"),
                    "export(0, 1): 17;" + Script.numbered(0, 16, "divide(0, %1$d, 1): %1$d.0; "));
            Script.check("the row has one element more, type " + type, export.replace("L", "18"), "export(0, 1): 17; "
                    + "divide(0, 16, 1): 16.0; divide(0, 17, 1): 0.0");
            Script.check("from index 0 on, in the order of the chain, the rest stays, type " + type, export.replace("L", "30"),
                    "export(0, 1): 17; export(0, 0): 4; divide(0, 0, 1): 0.0; divide(0, 1, 1): -7.0; divide(0, 4, 1): 4.0; "
                    + "divide(0, 16, 1): 16.0; divide(0, 17, 1): 0.0; export(0, 7): 1; divide(0, 1, 1): -7.0");
        }
        Script.check("an uncommitted version is exported, too", "begin(0): 0; write(0, 0, 5): 0; allocate(0, 1, 2): nothing; "
                + "export(0, 0): 2; divide(0, 1, 1): 5.0");
        Script.check("converted to the element type as by a Java cast", "begin(0): 0; begin(0): 1; begin(0): 2; write(0, 0, 16777217): 0; "
                + "write(1, 0, MAX): 0; write(2, 0, MIN): 0; allocate(0, 0, 4): nothing; allocate(1, 1, 4): nothing; export(0, 0): 4; "
                + "export(1, 0): 4;", """
                divide(0, 1, 1): 1.6777216E7; divide(0, 2, 1): 2.14748365E9; divide(0, 3, 1): -2.14748365E9; divide(0, 1, 16777216): 1.0;
                divide(1, 1, 16777217): 1.0;
                divide(1, 2, MAX): 1.0; divide(1, 3, MIN): 1.0; export(1, 0): 4; divide(1, 2, 2147483646): 1.0;
                divide(1, 1, 16777216): 1.0""");
    }

    private static void shortRows() {
        for (int type = 0; type < 2; type++) {
            Script.check("If the row is too short, the elements that it has are set, and then an exception is thrown: by 1, type " + type,
                    VALUES, "allocate(0, " + type + ", 16): nothing; export(0, 1): !IndexOutOfBounds;" + Script.numbered(0, 15,
                    "divide(0, %1$d, 1): %1$d.0; ") + "divide(0, 16, 1): !NoSuchElement; cloneRow(0, 0): 16");
            Script.check("too short: 1 element, type " + type, VALUES, "allocate(0, " + type + ", 2): nothing; "
                    + "export(0, 0): !IndexOutOfBounds; divide(0, 1, 1): -7.0; allocate(0, " + type + ", 1): nothing; "
                    + "export(0, 0): !IndexOutOfBounds; divide(0, 0, 1): 0.0");
            Script.check("too short: no elements, type " + type, "allocate(0, " + type + ", 0): nothing; export(0, 0): !IndexOutOfBounds; "
                    + "cloneRow(0, 0): 0");
        }
        Script.refused("no such slot or item before an empty slot", "allocate(1, 1, 0): nothing", "export(0, 8): !IndexOutOfBounds; "
                + "export(0, -1): !IndexOutOfBounds; export(3, 0): !IndexOutOfBounds; export(1, 8): !IndexOutOfBounds; "
                + "export(0, 0): !IllegalState");
        Script.refused("an export that is too short changes nothing but the row", VALUES + "allocate(0, 1, 0): nothing",
                "export(0, 1): !IndexOutOfBounds");
    }

    private static void divideInts() {
        String ints = VALUES + "allocate(0, 1, 4): nothing; export(0, 0): 4; ";
        Script.check("Quotients of ints are cut toward zero", ints, "divide(0, 1, 2): -3.0; divide(0, 1, -2): 1.0; divide(0, 1, 2): 0.0; "
                + "export(0, 0): 4; divide(0, 1, -2): 3.0; divide(0, 1, -2): -1.0; export(0, 0): 4; divide(0, 1, 8): 0.0");
        Script.check("a zero of ints has no sign", ints, "divide(0, 0, -5): 0.0; divide(0, 1, -8): 0.0");
        Script.check("the least int divided by -1 is itself", ints, "divide(0, 3, -1): -2.14748365E9; divide(0, 3, -1): -2.14748365E9; "
                + "divide(0, 3, MIN): 1.0");
        Script.check("the greatest divisors", ints, "divide(0, 2, MAX): 1.0; export(0, 0): 4; divide(0, 2, MIN): 0.0; "
                + "divide(0, 3, MAX): -1.0; divide(0, 1, MAX): 0.0; divide(0, 1, MIN): 0.0");
        Script.check("Returns the new element, converted to float", "begin(0): 0; write(0, 0, 33554435): 0; allocate(0, 1, 2): nothing; "
                + "export(0, 0): 2; divide(0, 1, 1): 3.3554436E7; divide(0, 1, 33554435): 1.0");
    }

    private static void divideFloats() {
        String floats = VALUES + "allocate(0, 0, 4): nothing; export(0, 0): 4; ";
        Script.check("as floats", floats, "divide(0, 1, 2): -3.5; divide(0, 1, 2): -1.75; divide(0, 1, -1): 1.75; "
                + "divide(0, 1, 3): 0.5833333");
        Script.check("a zero of floats has a sign", floats, "divide(0, 0, -5): -0.0; divide(0, 0, -5): 0.0; divide(0, 0, 5): 0.0");
        Script.check("the greatest floats and divisors", floats, "divide(0, 2, MAX): 1.0; divide(0, 3, MIN): 1.0; export(0, 0): 4; "
                + "divide(0, 3, -1): 2.14748365E9; divide(0, 2, MIN): -1.0; divide(0, 1, MIN): 3.259629E-9");
        Script.check("For a row of floats the number is converted to float first", "begin(0): 0; write(0, 0, 16777216): 0; "
                + "allocate(0, 0, 2): nothing; export(0, 0): 2; divide(0, 1, 16777217): 1.0; divide(0, 1, 16777219): 5.960463E-8");
    }

    private static void refusedDivisions() {
        for (int type = 0; type < 2; type++) {
            Script.refused("the divisor is 0, or there is no such index, type " + type, VALUES + "allocate(0, " + type + ", 4): nothing; "
                    + "export(0, 0): 4", """
                    divide(0, 0, 0): !Arithmetic; divide(0, 3, 0): !Arithmetic; divide(0, 4, 0): !Arithmetic;
                    divide(0, -1, 0): !Arithmetic; divide(0, MAX, 0): !Arithmetic;
                    divide(0, -1, 1): !NoSuchElement; divide(0, 4, 1): !NoSuchElement; divide(0, 29, 1): !NoSuchElement;
                    divide(0, 30, 1): !NoSuchElement;
                    divide(0, MIN, 1): !NoSuchElement; divide(0, MAX, -1): !NoSuchElement; divide(1, 0, 0): !IllegalState;
                    divide(1, 9, 1): !IllegalState; divide(3, 0, 0): !IndexOutOfBounds""");
        }
    }

    private static void cloneRow() {
        Script.check("Stores a copy of a row in another slot: of 30 elements", VALUES, "allocate(0, 1, 30): nothing; export(0, 1): 17; "
                + "cloneRow(0, 2): 30; divide(2, 16, 1): 16.0; divide(2, 29, 1): 0.0; divide(2, 30, 1): !NoSuchElement; "
                + "divide(2, 16, 2): 8.0; divide(0, 16, 1): 16.0; cloneRow(1, 0): !IllegalState");
        Script.check("in place of what is there: a longer row of the other type", VALUES, "allocate(0, 0, 2): nothing; "
                + "export(0, 0): !IndexOutOfBounds; allocate(1, 1, 30): nothing; export(1, 1): 17; cloneRow(0, 1): 2; "
                + "divide(1, 1, 2): -3.5; divide(1, 2, 1): !NoSuchElement; copyRow(0, 1): 2");
        Script.check("in place of what is there: a shorter row", VALUES, "allocate(0, 0, 17): nothing; export(0, 1): 17; "
                + "allocate(1, 1, 1): nothing; cloneRow(0, 1): 17; divide(1, 16, 32): 0.5; divide(0, 16, 1): 16.0");
        Script.check("the other slot, which can also be the same", VALUES, "allocate(2, 1, 4): nothing; export(2, 0): 4; "
                + "cloneRow(2, 2): 4; divide(2, 1, 1): -7.0; divide(2, 3, 1): -2.14748365E9");
        Script.check("a row that was shortened by a clone and made longer again is filled with 0", VALUES, "allocate(0, 1, 17): nothing; "
                + "export(0, 1): 17; allocate(1, 1, 1): nothing; cloneRow(1, 0): 1; allocate(0, 1, 17): nothing; divide(0, 16, 1): 0.0; "
                + "divide(0, 1, 1): 0.0");
        Script.refused("no such slot before an empty one", "allocate(1, 1, 2): nothing", "cloneRow(0, 3): !IndexOutOfBounds; "
                + "cloneRow(0, -1): !IndexOutOfBounds; cloneRow(3, 0): !IndexOutOfBounds; cloneRow(0, 1): !IllegalState; "
                + "cloneRow(2, 1): !IllegalState; cloneRow(0, 2): !IllegalState");
    }

    private static void copyRow() {
        Script.check("to the beginning of another row: as many elements", VALUES, "allocate(0, 1, 4): nothing; export(0, 0): 4; "
                + "allocate(1, 1, 4): nothing; copyRow(0, 1): 4; divide(1, 1, 1): -7.0; divide(1, 3, 1): -2.14748365E9; "
                + "divide(1, 1, 7): -1.0; divide(0, 1, 1): -7.0");
        Script.check("to the beginning of another row: one element less", VALUES, "allocate(0, 0, 4): nothing; export(0, 0): 4; "
                + "allocate(1, 0, 5): nothing; copyRow(0, 1): 4; divide(1, 1, 1): -7.0; divide(1, 4, 1): 0.0; cloneRow(1, 1): 5");
        Script.check("the rest of the other row stays", VALUES, "allocate(0, 1, 17): nothing; export(0, 1): 17; "
                + "allocate(1, 1, 1): nothing; copyRow(1, 0): 1; divide(0, 1, 1): 1.0; divide(0, 16, 1): 16.0; allocate(2, 1, 0): nothing; "
                + "copyRow(2, 0): 0; divide(0, 16, 1): 16.0");
        Script.check("or to itself", VALUES, "allocate(0, 1, 30): nothing; export(0, 1): 17; copyRow(0, 0): 30; divide(0, 16, 1): 16.0; "
                + "divide(0, 29, 1): 0.0");
        Script.refused("the other row has fewer elements: by 1", VALUES + "allocate(0, 1, 4): nothing; export(0, 0): 4; "
                + "allocate(1, 1, 3): nothing; allocate(2, 1, 0): nothing", "copyRow(0, 1): !NoSuchElement; copyRow(0, 2): !NoSuchElement; "
                + "copyRow(1, 2): !NoSuchElement");
        Script.refused("the rows have different element types: before the lengths", VALUES + "allocate(0, 1, 4): nothing; export(0, 0): 4; "
                + "allocate(1, 0, 3): nothing; allocate(2, 0, 30): nothing", "copyRow(0, 1): !IllegalArgument; "
                + "copyRow(1, 0): !IllegalArgument; copyRow(0, 2): !IllegalArgument; copyRow(2, 0): !IllegalArgument");
        Script.check("rows of no elements have types, too", "allocate(0, 0, 0): nothing; allocate(1, 1, 0): nothing; "
                + "allocate(2, 1, 0): nothing; copyRow(0, 1): !IllegalArgument; copyRow(1, 0): !IllegalArgument; copyRow(1, 2): 0; "
                + "cloneRow(0, 1): 0; copyRow(0, 1): 0; copyRow(1, 2): !IllegalArgument");
        Script.refused("one of the slots is empty: before the types", "allocate(1, 0, 4): nothing", "copyRow(0, 1): !IllegalState; "
                + "copyRow(1, 0): !IllegalState; copyRow(0, 2): !IllegalState; copyRow(0, 0): !IllegalState; "
                + "copyRow(0, 3): !IndexOutOfBounds; copyRow(-1, 0): !IndexOutOfBounds");
    }

    private static void snapshot() {
        Script.check("a snapshot of a new object", "snapshot(): 0; begin(0): 0; write(0, 0, 1): 0; restore(): 0; transactionCount(): 0; "
                + "versionCount(0): 1; eventCount(): 0; horizon(): 1; restore(): 0; begin(0): 0; transaction(0, 1): 1");
        Script.check("It replaces an earlier one", "begin(0): 0; snapshot(): 1; begin(0): 1; snapshot(): 2; begin(0): 2; restore(): 2; "
                + "transactionCount(): 2; reset(0): 2; snapshot(): 0; restore(): 0; transactionCount(): 0; reset(1): 0");
        Script.check("a snapshot of the protocol", "reset(0): 2; snapshot(): 0; reset(1): 0; restore(): 0; reset(2): 0");
        Script.check("a snapshot of the transactions and the next timestamp", "begin(4): 0; abort(0): 1; restartNext(): 0; snapshot(): 1; "
                + "abort(0): 1; restartNext(): 0; begin(5): 1; restore(): 1; transaction(0, 1): 2; transaction(0, 3): 1; "
                + "transaction(0, 0): 0; begin(6): 1; transaction(1, 1): 3; transaction(1, 2): 6; transaction(1, 3): 0");
        Script.check("a snapshot of the items", "begin(0): 0; write(0, 7, 5): 0; read(0, 0): 0; snapshot(): 1; abort(0): 1; restore(): 1; "
                + "versionCount(7): 2; version(7, 1, 2): 5; version(0, 0, 1): 1; commit(0): true; collect(): 1; restore(): 1; "
                + "version(7, 0, 0): 0; version(7, 1, 4): 0; valueAt(7, 9): 0");
        Script.check("a snapshot of the events and the statistics", "begin(0): 0; snapshot(): 1; commit(0): true; total(5): 1; "
                + "eventCount(): 2; restore(): 1; total(5): 0; eventCount(): 1; event(1, 0): !IndexOutOfBounds; abortShare(): 0.0");
        Script.check("a snapshot has no rows, no buffer and no error position", "begin(0): 0; text('q'): 1; run(0): !IllegalArgument; "
                + "text('r0'): 2; allocate(0, 1, 2): nothing; snapshot(): 1; text(' r1'): 5; allocate(0, 0, 5): nothing; "
                + "allocate(1, 1, 1): nothing; restore(): 1; cloneRow(0, 0): 5; cloneRow(1, 1): 1; run(0): 2; errorPosition(): 0");
        Script.check("Returns the number of transactions: 16", Script.numbered(0, 15, "begin(0): %1$d; "), "snapshot(): 16; reset(2): 2; "
                + "restore(): 16; transactionCount(): 16; begin(0): !IllegalState");
        Script.check("a snapshot is no event", "begin(0): 0; snapshot(): 1; restore(): 1; eventCount(): 1; horizon(): 1");
    }

    private static void fullSnapshot() {
        String full = VALUES + "read(15, 1): 16; read(14, 0): _; commit(14): false; " + "add(15, 2, 1): _; ".repeat(18)
                + "transaction(15, 4): 20; abort(3): 1; ";
        TimestampScheduler bench = prepared(full + "snapshot(): 16; ");
        String due = Portrait.of(prepared(full));
        Script.expect("a snapshot changes nothing", Portrait.of(bench).equals(due));
        prepare(bench, "restartNext(): 3; commit(0): true; abort(15): 1; collect(): _; reset(0): 2; begin(9): 0; write(0, 1, 77): 0; "
                + "read(0, 1): 77;");
        Script.expect("the calls behind it change the object", !Portrait.of(bench).equals(due));
        prepare(bench, "restore(): 16; ");
        Script.expect("16 transactions, 20 operations, 17 versions and 50 events are restored", Portrait.of(bench).equals(due));
        prepare(bench, "restartNext(): 3; abort(15): 1; abort(14): 1; abort(2): 1; restore(): 16; dependencies(14): 4; ");
        Script.expect("what happens behind a restore does not change the snapshot", Portrait.of(bench).equals(due));
    }

    private static TimestampScheduler prepared(String calls) {
        TimestampScheduler bench = new TimestampScheduler();
        prepare(bench, calls);
        return bench;
    }

    private static void prepare(TimestampScheduler bench, String calls) {
        Script.checkOn(bench, "a full snapshot", calls);
    }

    private static void restore() {
        Script.refused("there is no snapshot", "begin(0): 0; write(0, 0, 1): 0", "restore(): !IllegalState");
        Script.check("there is no snapshot after a reset alone", "reset(1): 2; restore(): !IllegalState; snapshot(): 0; reset(0): 1; "
                + "restore(): 0; reset(0): 1");
        Script.check("the snapshot, which stays available", "begin(0): 0; snapshot(): 1; begin(0): 1; restore(): 1; restore(): 1; "
                + "reset(0): 2; restore(): 1; restore(): 1; transactionCount(): 1");
        Script.check("what is done behind a restore does not change the snapshot", "begin(0): 0; write(0, 0, 1): 0; snapshot(): 1; "
                + "restore(): 1; write(0, 0, 2): 0; read(0, 0): 2; commit(0): true; restore(): 1; version(0, 1, 2): 1; "
                + "version(0, 1, 1): 0; transaction(0, 0): 0; transaction(0, 4): 1");
    }
}
