/** The boundary cases of commit, abort, restart and collection. Transaction n has the timestamp n + 1 unless it was restarted. */
public final class EndingEdgesTest {
    private static final String FOUR = Script.numbered(0, 3, "begin(0): %1$d; ");
    /** Each transaction reads what the one before it wrote. */
    private static final String CHAIN_OF_16 = Script.numbered(0, 15, "begin(0): %1$d; add(%1$d, 0, 1): %2$d; ");
    /** All others read what the first one wrote. */
    private static final String STAR_OF_16 = Script.numbered(0, 15, "begin(0): %1$d; ") + "write(0, 0, 5): 0; "
            + Script.numbered(1, 15, "read(%1$d, 0): 5; ");

    public static void main(String[] args) {
        committedAtOnce();
        pending();
        pendingFollow();
        aborted();
        cascadeOrder();
        longCascades();
        restartChoice();
        restartedOperations();
        horizon();
        collection();
        Script.end();
    }

    private static void committedAtOnce() {
        Script.check("depends on no uncommitted transaction: without operations", "begin(0): 0; commit(0): true; transaction(0, 0): 2; "
                + "event(1, 0): 5; total(4): 0");
        Script.check("depends on no uncommitted transaction: on committed ones alone", FOUR, """
                write(0, 0, 1): 0; write(1, 1, 1): 0; read(2, 0): 1; read(2, 1): 1; commit(0): true; dependencies(2): 2; commit(1): true;
                dependencies(2): 0; commit(2): true; total(4): 0; total(5): 3; transaction(3, 0): 0""");
        Script.check("a commit is asked for once", "begin(0): 0; commit(0): true; commit(0): !IllegalState; total(5): 1; "
                + "transaction(0, 0): 2");
    }

    private static void pending() {
        Script.check("Any other one becomes pending", FOUR, """
                write(0, 0, 1): 0; read(1, 0): 1; commit(1): false; transaction(1, 0): 1; dependencies(1): 1; total(4): 1; total(5): 0;
                event(6, 0): 4; event(6, 1): 1; event(6, 2): -1; commit(1): !IllegalState; total(4): 1""");
        Script.check("pending until the last of two is committed", FOUR, """
                write(0, 0, 1): 0; write(1, 1, 1): 0; read(2, 0): 1; read(2, 1): 1; commit(2): false; commit(0): true; transaction(2, 0): 1;
                dependencies(2): 2; commit(1): true; transaction(2, 0): 2; dependencies(2): 0; total(4): 1; total(5): 3""");
        Script.check("a pending one waits for a pending one", FOUR, """
                add(0, 0, 1): 1; add(1, 0, 1): 2; add(2, 0, 1): 3; commit(1): false; commit(2): false; commit(0): true;
                transaction(1, 0): 2;
                transaction(2, 0): 2; transaction(3, 0): 0; valueAt(0, 3): 3; check(): 0""");
        Script.check("an active one in between holds the pending ones back", FOUR, """
                add(0, 0, 1): 1; add(1, 0, 1): 2; add(2, 0, 1): 3; add(3, 0, 1): 4; commit(3): false; commit(2): false; commit(0): true;
                transaction(1, 0): 0; transaction(2, 0): 1; transaction(3, 0): 1; commit(1): true; transaction(2, 0): 2;
                transaction(3, 0): 2""");
        Script.check("an active one that depends on none any more is not committed", FOUR, "write(0, 0, 1): 0; read(1, 0): 1; "
                + "commit(0): true; transaction(1, 0): 0; total(5): 1");
    }

    private static void pendingFollow() {
        Script.check("the one with the lowest timestamp is looked for anew after each one", FOUR, """
                write(0, 0, 1): 0; write(1, 1, 1): 0; read(1, 0): 1; read(2, 1): 1; read(3, 0): 1; commit(3): false; commit(2): false;
                commit(1): false; commit(0): true; eventCount(): 16; event(12, 1): 0; event(13, 1): 1; event(14, 1): 2; event(15, 1): 3;
                event(15, 0): 5; event(15, 2): -1""");
        Script.check("the lowest timestamp first, not the lowest number", "begin(0): 0; begin(0): 1; begin(0): 2; abort(0): 1; "
                + "restartNext(): 0;", """
                write(1, 0, 1): 0; read(2, 0): 1; read(0, 0): 1; commit(0): false; commit(2): false; commit(1): true; eventCount(): 13;
                event(10, 1): 1; event(11, 1): 2; event(12, 1): 0""");
        Script.check("the lowest timestamp first, also if it is that of transaction 0", "begin(0): 0; begin(0): 1; begin(0): 2; "
                + "abort(0): 1; restartNext(): 0; abort(2): 1; restartNext(): 2;", """
                write(1, 0, 1): 0; read(2, 0): 1; read(0, 0): 1; commit(0): false; commit(2): false; commit(1): true; transaction(0, 1): 4;
                transaction(2, 1): 5; eventCount(): 15;
                event(12, 1): 1; event(13, 1): 0; event(14, 1): 2""");
        StringBuilder backwards = new StringBuilder();
        for (int number = 15; number > 0; number--) {
            backwards.append("commit(%d): false; ".formatted(number));
        }
        Script.check("until there is none: 16 at once", CHAIN_OF_16, backwards.toString(), "commit(0): true; total(5): 16; total(4): 15; ",
                Script.numbered(0, 15, "transaction(%1$d, 0): 2; version(0, %2$d, 4): 1; "), """
                eventCount(): 50; event(33, 0): 4; event(34, 0): 5; event(34, 1): 0; event(35, 1): 1; event(49, 0): 5; event(49, 1): 15;
                valueAt(0, 16): 16; horizon(): 17; check(): 0; collect(): 16""");
    }

    private static void aborted() {
        Script.check("its versions are removed, of all items", "begin(0): 0; begin(0): 1;" + Script.numbered(0, 7, "write(0, %1$d, 5): 0; "
                + "write(1, %1$d, 6): 0; "),
                "abort(0): 1;", Script.numbered(0, 7, "versionCount(%1$d): 2; version(%1$d, 1, 3): 1; version(%1$d, 0, 3): -1; "),
                "abort(1): 1;",
                Script.numbered(0, 7, "versionCount(%1$d): 1; "));
        Script.check("its dependencies end", FOUR, """
                write(0, 0, 1): 0; write(1, 1, 1): 0; read(2, 0): 1; read(2, 1): 1; dependencies(2): 3; abort(2): 1; dependencies(2): 0;
                cascade(0): 1; cascade(1): 2; abort(0): 1; transaction(2, 3): 1; transaction(1, 0): 0""");
        Script.check("it waits for a restart: none before, one after", "begin(0): 0; restartNext(): !NoSuchElement; abort(0): 1; "
                + "restartNext(): 0; restartNext(): !NoSuchElement");
        Script.check("the item of an abort by the method abort is -1", "begin(0): 0; write(0, 3, 1): 0; abort(0): 1; event(2, 0): 6; "
                + "event(2, 1): 0; event(2, 2): -1");
        Script.check("the item of an abort by a program is -1", "begin(0): 0; text('w3=1 x'): 6; run(0): 1; event(2, 0): 6; "
                + "event(2, 1): 0; event(2, 2): -1");
        Script.check("the item of an abort by an operation is its item", "begin(0): 0; begin(0): 1; read(1, 7): 0; "
                + "write(0, 7, 1): ABORTED; event(3, 0): 6; event(3, 2): 7");
        Script.check("a pending transaction can be aborted by itself", FOUR, """
                write(0, 0, 1): 0; add(1, 0, 1): 2; read(2, 0): 2; commit(1): false; abort(1): 2; transaction(1, 0): 3;
                transaction(2, 0): 3;
                transaction(0, 0): 0; versionCount(0): 2; commit(0): true; transaction(1, 0): 3; total(5): 1""");
    }

    private static void cascadeOrder() {
        Script.check("completely for one of them before the next one", FOUR, """
                write(0, 0, 1): 0; write(1, 1, 1): 0; read(1, 0): 1; read(2, 0): 1; read(3, 1): 1; abort(0): 4; eventCount(): 13;
                event(9, 0): 6;
                event(9, 1): 0; event(10, 0): 7; event(10, 1): 1; event(10, 2): -1; event(11, 0): 7; event(11, 1): 3; event(12, 0): 7;
                event(12, 1): 2""");
        Script.check("one that depends on two of them is aborted once", FOUR, """
                write(0, 0, 1): 0; write(1, 1, 1): 0; read(1, 0): 1; read(2, 0): 1; read(2, 1): 1; cascade(0): 7; abort(0): 3; total(6): 1;
                total(7): 2; transaction(2, 3): 1; eventCount(): 12; event(10, 1): 1; event(11, 1): 2; transaction(3, 0): 0""");
        Script.check("in the order of their numbers, not of their timestamps", FOUR, """
                abort(1): 1; restartNext(): 1; write(0, 0, 1): 0; read(3, 0): 1; read(2, 0): 1; read(1, 0): 1; abort(0): 4;
                eventCount(): 14;
                event(10, 1): 0; event(11, 1): 1; event(12, 1): 2; event(13, 1): 3""");
        Script.check("a lower number can depend on a higher one", FOUR, """
                abort(0): 1; restartNext(): 0; write(3, 0, 1): 0; add(0, 0, 1): 2; dependencies(0): 8; cascade(3): 9; abort(3): 2;
                transaction(0, 0): 3;
                transaction(0, 3): 2; event(9, 0): 6; event(9, 1): 3; event(10, 0): 7; event(10, 1): 0""");
        Script.check("an operation that aborts its transaction aborts those that depend on it, too", FOUR, """
                write(0, 0, 1): 0; read(1, 0): 1; write(1, 2, 1): 0; read(2, 2): 1; commit(2): false; write(0, 0, 2): ABORTED; total(6): 1;
                total(7): 2;
                eventCount(): 12; event(9, 0): 6; event(9, 2): 0; event(10, 0): 7; event(10, 1): 1; event(10, 2): -1; event(11, 1): 2;
                transaction(3, 0): 0; abortShare(): 0.75""");
        Script.check("a program that aborts its transaction aborts those that depend on it, too", FOUR, "write(0, 0, 1): 0; read(1, 0): 1; "
                + "text('x'): 1; run(0): 0; transaction(1, 0): 3; total(7): 1");
        Script.check("those that depend on it alone", FOUR, "write(0, 0, 1): 0; write(1, 1, 1): 0; read(2, 0): 1; read(3, 1): 1; "
                + "abort(1): 2; transaction(2, 0): 0; transaction(0, 0): 0; transaction(3, 0): 3");
    }

    private static void longCascades() {
        Script.check("16 in a chain", CHAIN_OF_16, "cascade(0): 65535; cascade(15): 32768; cascade(14): 49152; abort(0): 16; total(6): 1; "
                + "total(7): 15; versionCount(0): 1;",
                Script.numbered(0, 15, "transaction(%1$d, 0): 3; transaction(%1$d, 3): 1; dependencies(%1$d): 0; cascade(%1$d): 0; "),
                "event(34, 0): 6; event(34, 1): 0; event(35, 0): 7; event(35, 1): 1; event(49, 1): 15; abortShare(): 1.0; horizon(): 17");
        Script.check("the last of a chain alone", CHAIN_OF_16, "abort(15): 1; versionCount(0): 16; abort(8): 7; versionCount(0): 9; "
                + "total(7): 6; horizon(): 1");
        Script.check("16 in a star", STAR_OF_16, "cascade(0): 65535; abort(0): 16; total(7): 15;", Script.numbered(32, 47,
                "event(%1$d, 2): -1; "),
                "eventCount(): 48; event(32, 0): 6; event(32, 1): 0; event(33, 0): 7; event(33, 1): 1; event(34, 1): 2; event(46, 1): 14; "
                + "event(47, 1): 15");
        Script.check("all of a chain of 16 are restarted", CHAIN_OF_16, "abort(0): 16;" + Script.numbered(0, 15, "restartNext(): %1$d; "
                + "version(0, %2$d, 2): %2$d; "), """
                restartNext(): !NoSuchElement; transaction(15, 1): 32; dependencies(15): 16384; abort(0): 16; transaction(15, 3): 2;
                abortShare(): 1.0""");
    }

    private static void restartChoice() {
        Script.check("the greatest priority: 9 before 8, 1 before 0", """
                begin(0): 0; begin(8): 1; begin(9): 2; begin(1): 3; abort(0): 1; abort(1): 1; abort(2): 1; abort(3): 1; restartNext(): 2;
                restartNext(): 1;
                restartNext(): 3; restartNext(): 0; restartNext(): !NoSuchElement""");
        Script.check("A restart concerns the aborted transactions alone", "begin(9): 0; begin(9): 1; begin(0): 2; commit(1): true; "
                + "abort(2): 1; restartNext(): 2; transaction(0, 1): 1");
        Script.check("the priority goes before the number of aborts", """
                begin(1): 0; begin(2): 1; abort(0): 1; restartNext(): 0; abort(0): 1; abort(1): 1; transaction(0, 3): 2;
                transaction(1, 3): 1;
                restartNext(): 1; restartNext(): 0""");
        Script.check("among several, the one that was aborted most often: cascading aborts count", """
                begin(0): 0; begin(5): 1; begin(5): 2; write(0, 0, 1): 0; read(2, 0): 1; abort(0): 2; restartNext(): 2; abort(2): 1;
                abort(1): 1;
                transaction(2, 3): 2; restartNext(): 2; restartNext(): 1; restartNext(): 0""");
        Script.check("of these the one with the lowest number", "begin(5): 0; begin(5): 1; begin(5): 2; abort(2): 1; abort(1): 1; "
                + "restartNext(): 1; abort(0): 1; restartNext(): 0; restartNext(): 2");
        Script.refused("no aborted transaction: active, pending and committed ones are none", FOUR + "write(0, 0, 1): 0; read(1, 0): 1; "
                + "commit(1): false; commit(2): true",
                "restartNext(): !NoSuchElement");
        Script.refused("no aborted transaction: no transaction at all", "", "restartNext(): !NoSuchElement");
    }

    private static void restartedOperations() {
        Script.check("a restart without operations", "begin(0): 0; abort(0): 1; restartNext(): 0; eventCount(): 3; event(2, 0): 8; "
                + "event(2, 1): 0; event(2, 2): -1; transaction(0, 4): 0; transaction(0, 0): 0");
        Script.check("a restart with 20 operations", "begin(0): 0; " + "add(0, 0, 1): _; ".repeat(20), """
                version(0, 1, 2): 20; begin(0): 1; write(1, 0, 100): 0; abort(0): 1; restartNext(): 0; transaction(0, 4): 20;
                transaction(0, 1): 3;
                version(0, 2, 2): 120; version(0, 2, 0): 3; operation(0, 0, 3): 100; operation(0, 19, 3): 119; operation(0, 19, 2): 1;
                total(1): 40;
                total(2): 41; eventCount(): 50; event(9, 0): 8; event(10, 0): 1; event(11, 0): 2; event(49, 0): 2; dependencies(0): 2""");
        Script.check("the results of the operations change, the list does not", """
                begin(0): 0; begin(1): 1; write(0, 0, 4): 0; read(1, 0): 4; write(1, 1, 7): 0; add(1, 0, 3): 7; abort(0): 2;
                operation(1, 0, 3): 4;
                operation(1, 2, 3): 4; restartNext(): 1; transaction(1, 4): 3; operation(1, 0, 0): 0; operation(1, 0, 1): 0;
                operation(1, 0, 3): 0;
                operation(1, 1, 0): 1; operation(1, 1, 2): 7; operation(1, 1, 3): 0; operation(1, 2, 0): 2; operation(1, 2, 2): 3;
                operation(1, 2, 3): 0;
                dependencies(1): 0; version(0, 1, 2): 3; transaction(1, 1): 3""");
        Script.check("A restart does the operations again without a commit at the end", """
                begin(0): 0; begin(0): 1; write(0, 0, 4): 0; text('r0 c'): 4; run(1): 1; transaction(1, 0): 1; abort(0): 2;
                restartNext(): 0;
                transaction(0, 0): 0; restartNext(): 1; transaction(1, 0): 0; operation(1, 0, 3): 4; dependencies(1): 1; total(5): 0""");
        Script.check("a restart goes on with new operations behind the list", "begin(0): 0; read(0, 0): 0; abort(0): 1; restartNext(): 0; "
                + "write(0, 1, 2): 0; transaction(0, 4): 2; operation(0, 1, 0): 1");
    }

    private static void horizon() {
        Script.check("the next timestamp to be given if there is none", """
                horizon(): 1; begin(0): 0; horizon(): 1; commit(0): true; horizon(): 2; begin(0): 1; horizon(): 2; abort(1): 1;
                horizon(): 3;
                restartNext(): 1; horizon(): 3; commit(1): true; horizon(): 4; reset(2): 2; horizon(): 1""");
        Script.check("the lowest timestamp of an uncommitted transaction, not of the lowest number", "begin(0): 0; begin(0): 1; "
                + "abort(0): 1; restartNext(): 0; horizon(): 2; commit(1): true; horizon(): 3");
        Script.check("a pending transaction is uncommitted", FOUR, "write(0, 0, 1): 0; abort(2): 1; abort(3): 1; read(1, 0): 1; "
                + "commit(1): false; horizon(): 1; commit(0): true; horizon(): 5");
        Script.check("a pending transaction can be the lowest", "begin(0): 0; begin(0): 1; begin(0): 2; abort(0): 1; restartNext(): 0; "
                + "write(1, 0, 1): 0; read(2, 0): 1; commit(2): false; horizon(): 2; commit(1): true; horizon(): 4");
    }

    private static void collection() {
        Script.check("nothing to remove", "collect(): 0; begin(0): 0; collect(): 0; write(0, 0, 1): 0; collect(): 0; abort(0): 1; "
                + "collect(): 0; versionCount(0): 1; version(0, 0, 0): 0");
        Script.check("all versions before the last committed version whose write timestamp is at most the horizon",
                Script.numbered(0, 4, "begin(0): %1$d; write(%1$d, 0, %2$d): 0; "), """
                commit(0): true; commit(1): true; commit(3): true; horizon(): 3; collect(): 2; versionCount(0): 4; version(0, 0, 0): 2;
                version(0, 1, 0): 3;
                version(0, 2, 0): 4; version(0, 3, 0): 5; version(0, 0, 3): 1; collect(): 0; valueAt(0, 1): !NoSuchElement;
                valueAt(0, 2): 2; commit(2): true;
                horizon(): 5; collect(): 2; version(0, 0, 0): 4; versionCount(0): 2; commit(4): true; horizon(): 6; collect(): 1;
                versionCount(0): 1;
                version(0, 0, 2): 5; version(0, 0, 4): 1; valueAt(0, 4): !NoSuchElement; valueAt(0, 5): 5; check(): 0""");
        Script.check("a version at the horizon is uncommitted", "begin(0): 0; write(0, 0, 1): 0; horizon(): 1; collect(): 0; "
                + "versionCount(0): 2; read(0, 0): 1; commit(0): true; collect(): 1");
        Script.check("a read at the horizon still finds its version", "begin(0): 0; begin(0): 1; write(1, 0, 1): 0; commit(1): true; "
                + "collect(): 0; read(0, 0): 0; commit(0): true; collect(): 1");
        Script.check("for each item: 128 versions at once", Script.numbered(0, 15, "begin(0): %1$d; "), everyItemByEveryTransaction(),
                "collect(): 0;" + Script.numbered(0, 15, "commit(%1$d): true; "), "collect(): 128; collect(): 0;",
                Script.numbered(0, 7, "versionCount(%1$d): 1; version(%1$d, 0, 0): 16; version(%1$d, 0, 3): 15; "
                + "valueAt(%1$d, 15): !NoSuchElement; "), "check(): 0");
        Script.check("a collection is no event", "begin(0): 0; write(0, 0, 1): 0; commit(0): true; eventCount(): 3; collect(): 1; "
                + "eventCount(): 3");
        Script.check("after a collection the chain takes versions again", Script.numbered(0, 7, "begin(0): %1$d; write(%1$d, 0, 1): 0; "
                + "commit(%1$d): true; "), "collect(): 8;",
                Script.numbered(8, 15, "begin(0): %1$d; write(%1$d, 0, %1$d): 0; "), "versionCount(0): 9; version(0, 8, 2): 15; "
                + "abort(8): 1; version(0, 1, 2): 9");
    }

    private static String everyItemByEveryTransaction() {
        StringBuilder all = new StringBuilder();
        for (int number = 0; number < 16; number++) {
            for (int item = 0; item < 8; item++) {
                all.append("write(%d, %d, 1): 0; ".formatted(number, item));
            }
        }
        return all.toString();
    }
}
