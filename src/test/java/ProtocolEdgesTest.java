/** The boundary cases of the three protocols' rules. Transaction n has the timestamp n + 1 unless it was restarted. */
public final class ProtocolEdgesTest {
    private static final String EIGHT = Script.numbered(0, 7, "begin(0): %1$d; ");

    public static void main(String[] args) {
        protocolRange();
        readOfTheCurrentVersion();
        readOfTheGreatestAtMost();
        readTimestamps();
        dependencies();
        writeAfterReads();
        writeAfterReadsOfOtherVersions();
        obsoleteWrites();
        ownVersions();
        newVersions();
        versionsMove();
        Script.end();
    }

    private static String protocol(int number) {
        return "reset(" + number + "): 2; " + EIGHT;
    }

    private static void protocolRange() {
        Script.check("There are the protocols basic (0), Thomas (1) and multiversion (2)", """
                reset(0): 2; reset(0): 0; reset(1): 0; reset(1): 1; reset(2): 1; reset(2): 2""");
        Script.refused("no other protocol", "reset(1): 2; begin(0): 0; begin(0): 1; write(1, 0, 4): 0; read(0, 1): 0", """
                reset(-1): !IllegalArgument; reset(3): !IllegalArgument; reset(MIN): !IllegalArgument; reset(MAX): !IllegalArgument""");
        Script.check("the protocol stays after a refused reset", "reset(1): 2; reset(3): !IllegalArgument; reset(0): 1");
    }

    private static void readOfTheCurrentVersion() {
        for (int number = 0; number < 2; number++) {
            String written = protocol(number) + "write(2, 0, 9): 0; ";
            Script.check("A read aborts if the write timestamp of the current version is greater than T: by 1", written, """
                    read(1, 0): ABORTED; transaction(1, 0): 3; version(0, 0, 1): 0; version(0, 1, 1): 0; total(1): 0; total(6): 1""");
            Script.check("A read aborts if it is greater: by more", written, "read(0, 0): ABORTED; transaction(0, 0): 3; event(9, 0): 6");
            Script.check("A read does not abort if it is T", written, "read(2, 0): 9; transaction(2, 0): 0; version(0, 1, 1): 3; "
                    + "dependencies(2): 0");
            Script.check("A read does not abort if it is less", written, "read(3, 0): 9; transaction(3, 0): 0; version(0, 1, 1): 4; "
                    + "read(7, 0): 9");
            Script.check("A read looks at its own item alone", written, "read(0, 1): 0; read(0, 7): 0; transaction(0, 0): 0");
            Script.check("A committed current version aborts an older read, too", written, "commit(2): true; read(1, 0): ABORTED");
            Script.check("After its removal the version before it is current", written, "abort(2): 1; read(1, 0): 0; version(0, 0, 1): 2");
        }
    }

    private static void readOfTheGreatestAtMost() {
        Script.check("A read under multiversion reads the version with the greatest write timestamp that is at most T", EIGHT, """
                write(1, 0, 20): 0; write(3, 0, 40): 0; write(6, 0, 70): 0; read(0, 0): 0; read(1, 0): 20; read(2, 0): 20; read(3, 0): 40;
                read(4, 0): 40; read(5, 0): 40; read(6, 0): 70; read(7, 0): 70; version(0, 0, 1): 1; version(0, 1, 1): 3;
                version(0, 2, 1): 6;
                version(0, 3, 1): 8; total(6): 0; dependencies(0): 0; dependencies(2): 2; dependencies(5): 8; dependencies(7): 64""");
        Script.check("A read under multiversion of the only version", EIGHT, "read(0, 5): 0; read(7, 5): 0; version(5, 0, 1): 8; "
                + "versionCount(5): 1");
        Script.check("A read under multiversion after a collection, at the horizon", EIGHT, """
                write(0, 0, 10): 0; write(1, 0, 20): 0; write(3, 0, 40): 0; commit(0): true; commit(1): true; commit(3): true; horizon(): 3;
                collect(): 2; read(2, 0): 20; version(0, 0, 1): 3; read(4, 0): 40""");
    }

    private static void readTimestamps() {
        for (int number = 0; number < 3; number++) {
            Script.check("the read timestamp of this version becomes T if it was less: protocol " + number, protocol(number), """
                    read(3, 0): 0; version(0, 0, 1): 4; read(3, 0): 0; version(0, 0, 1): 4; read(2, 0): 0; version(0, 0, 1): 4;
                    read(4, 0): 0;
                    version(0, 0, 1): 5; read(0, 0): 0; version(0, 0, 1): 5; version(1, 0, 1): 0""");
            Script.check("Read timestamps that an aborted transaction has set stay: protocol " + number, protocol(number), """
                    read(3, 0): 0; abort(3): 1; version(0, 0, 1): 4; write(2, 0, 1): ABORTED; write(4, 0, 1): 0""");
        }
    }

    private static void dependencies() {
        for (int number = 0; number < 3; number++) {
            String written = protocol(number) + "write(1, 0, 9): 0; ";
            Script.check("another transaction and uncommitted: itself is no other", written, "read(1, 0): 9; dependencies(1): 0; "
                    + "add(1, 0, 1): 10; dependencies(1): 0; commit(1): true");
            Script.check("another transaction and uncommitted: active", written, "read(2, 0): 9; dependencies(2): 2; read(2, 0): 9; "
                    + "dependencies(2): 2; commit(2): false");
            Script.check("another transaction and uncommitted: pending", written, """
                    add(2, 0, 1): 10; commit(2): false; read(3, 0): 10; dependencies(3): 4; dependencies(2): 2""");
            Script.check("another transaction and uncommitted: committed", written, "commit(1): true; read(2, 0): 9; dependencies(2): 0; "
                    + "commit(2): true");
            Script.check("the first version has no writer", protocol(number), "read(7, 0): 0; dependencies(7): 0; commit(7): true");
            Script.check("the transaction depends from then on, not from the write on", written, "write(2, 1, 1): 0; dependencies(2): 0; "
                    + "read(2, 2): 0; dependencies(2): 0");
            Script.check("the transaction depends on several: on all others", protocol(number), Script.numbered(0, 6,
                    "write(%1$d, %1$d, 1): 0; ")
                    + Script.numbered(0, 6, "read(7, %1$d): 1; "), "dependencies(7): 127; dependencies(0): 0; cascade(3): 136");
        }
    }

    private static void writeAfterReads() {
        for (int number = 0; number < 3; number++) {
            String read = protocol(number) + "read(3, 0): 0; ";
            Script.check("A write aborts if the read timestamp is greater than T: by 1", read, "write(2, 0, 1): ABORTED; "
                    + "transaction(2, 0): 3; versionCount(0): 1");
            Script.check("A write aborts if the read timestamp is greater than T: by more", read, "write(0, 0, 1): ABORTED; "
                    + "event(9, 0): 6; event(9, 2): 0");
            Script.check("A write does not abort if the read timestamp is T", read, "write(3, 0, 1): 0; versionCount(0): 2; "
                    + "version(0, 1, 0): 4");
            Script.check("A write does not abort if the read timestamp is less", read, "write(4, 0, 1): 0; versionCount(0): 2; "
                    + "version(0, 1, 0): 5");
            Script.check("A write looks at its own item alone", read, "write(0, 1, 1): 0; write(0, 7, 1): 0");
            Script.check("A write of an addition after its own read", protocol(number), "add(3, 0, 5): 5; add(3, 0, 5): 10; "
                    + "version(0, 0, 1): 4; version(0, 1, 1): 4");
        }
    }

    private static void writeAfterReadsOfOtherVersions() {
        String middle = "write(3, 0, 4): 0; read(5, 0): 4; write(6, 0, 7): 0; ";
        Script.check("the read timestamp of one of the versions: Thomas, of a middle version", protocol(1), middle, """
                version(0, 1, 1): 6; write(4, 0, 5): ABORTED; write(2, 0, 3): ABORTED; write(5, 0, 6): 1; version(0, 2, 0): 6;
                versionCount(0): 4""");
        Script.check("the read timestamp of one of the versions: Thomas, of the first version", protocol(1), """
                read(2, 0): 0; write(6, 0, 7): 0; write(4, 0, 5): 1; write(1, 0, 2): ABORTED; write(2, 0, 3): 1; versionCount(0): 4""");
        Script.check("the read timestamp of one of the versions: basic", protocol(0), middle, "write(4, 0, 5): ABORTED; "
                + "write(5, 0, 6): ABORTED; write(7, 0, 8): 0");
        Script.check("multiversion: the greatest write timestamp that is at most T, not a later version", EIGHT, middle, """
                write(2, 0, 3): 0; version(0, 1, 0): 3; write(5, 0, 6): 0; write(7, 0, 8): 0; versionCount(0): 6""");
        Script.check("multiversion: the greatest write timestamp that is at most T, read later by 1", EIGHT, middle,
                "write(4, 0, 5): ABORTED; versionCount(0): 3");
        Script.check("multiversion: not an earlier version", EIGHT, "read(1, 0): 0; write(2, 0, 3): 0; read(7, 0): 3; write(2, 1, 1): 0; "
                + "write(1, 0, 2): 0; versionCount(0): 3");
        Script.check("multiversion: the version at T itself", EIGHT, """
                write(2, 0, 3): 0; write(2, 0, 4): 0; read(2, 0): 4; write(2, 0, 5): 0; read(3, 0): 5; write(2, 0, 6): ABORTED;
                transaction(3, 0): 3;
                versionCount(0): 1""");
    }

    private static void obsoleteWrites() {
        String written = "write(3, 0, 4): 0; ";
        Script.check("the write is obsolete: under basic it aborts", protocol(0), written, "write(2, 0, 3): ABORTED; "
                + "write(0, 0, 1): ABORTED; total(3): 0; total(6): 2; versionCount(0): 2");
        Script.check("the write is obsolete: under Thomas it is done", protocol(1), written, """
                write(2, 0, 3): 1; versionCount(0): 3; version(0, 1, 0): 3; version(0, 2, 0): 4; total(3): 1; total(2): 1; event(9, 0): 3;
                event(9, 1): 2; event(9, 2): 0; transaction(2, 0): 0""");
        Script.check("under multiversion no write is obsolete", EIGHT, written, "write(2, 0, 3): 0; version(0, 1, 0): 3; total(3): 0; "
                + "total(2): 2; event(9, 0): 2");
        for (int number = 0; number < 3; number++) {
            Script.check("not obsolete if the current version is at T or before it: protocol " + number, protocol(number), written, """
                    write(3, 0, 5): 0; write(4, 0, 6): 0; write(7, 0, 7): 0; total(2): 4; total(3): 0; write(7, 0, 8): 0;
                    versionCount(0): 4""");
        }
        Script.check("Thomas: a read timestamp goes before an obsolete write", protocol(1), written, "read(3, 0): 4; "
                + "write(2, 0, 3): ABORTED; total(3): 0");
        Script.check("Thomas: an obsolete write becomes current when the later one is removed", protocol(1), written, """
                write(2, 0, 3): 1; abort(3): 1; read(2, 0): 3; write(2, 0, 8): 0; total(3): 1; read(3, 0): !IllegalState""");
    }

    private static void ownVersions() {
        Script.check("A write under Thomas that changes a version of its own that is not current counts as an obsolete write, too", protocol(1), """
                write(2, 0, 3): 0; write(3, 0, 4): 0; write(2, 0, 5): 1; write(2, 0, 6): 1; versionCount(0): 3; version(0, 1, 2): 6;
                version(0, 1, 0): 3;
                version(0, 1, 3): 2; total(3): 2; total(2): 2; event(10, 0): 3""");
        Script.check("under basic it aborts", protocol(0), "write(2, 0, 3): 0; write(3, 0, 4): 0; write(2, 0, 5): ABORTED; "
                + "versionCount(0): 2; version(0, 1, 3): 3");
        Script.check("under multiversion it is a write like others", EIGHT, "write(2, 0, 3): 0; write(3, 0, 4): 0; write(2, 0, 5): 0; "
                + "version(0, 1, 2): 5; total(3): 0; versionCount(0): 3");
        for (int number = 0; number < 3; number++) {
            Script.check("A write that is done changes the value of the version whose write timestamp is T, and nothing else: " + number,
                    protocol(number), """
                    write(2, 0, 3): 0; read(2, 0): 3; write(2, 0, MAX): 0; versionCount(0): 2; version(0, 1, 0): 3; version(0, 1, 1): 3;
                    version(0, 1, 2): 2147483647; version(0, 1, 3): 2; version(0, 1, 4): 0""");
        }
    }

    private static void versionsMove() {
        Script.check("a version that is put before others, removed or collected leaves the others as they are", EIGHT, """
                write(4, 0, 50): 0; read(5, 0): 50; write(6, 0, 70): 0; read(7, 0): 70; write(2, 0, 30): 0; read(2, 0): 30;
                versionCount(0): 4;
                version(0, 1, 0): 3; version(0, 1, 1): 3; version(0, 1, 2): 30; version(0, 1, 3): 2; version(0, 2, 0): 5;
                version(0, 2, 1): 6; version(0, 2, 2): 50; version(0, 2, 3): 4;
                version(0, 3, 0): 7; version(0, 3, 1): 8; version(0, 3, 2): 70; version(0, 3, 3): 6; abort(2): 1; version(0, 0, 1): 0;
                version(0, 1, 0): 5; version(0, 1, 1): 6;
                version(0, 1, 2): 50; version(0, 1, 3): 4; version(0, 2, 1): 8; commit(4): true; commit(6): true; commit(0): true;
                commit(1): true; commit(3): true; horizon(): 6;
                collect(): 1; version(0, 0, 0): 5; version(0, 0, 1): 6; version(0, 0, 2): 50; version(0, 0, 3): 4; version(0, 1, 0): 7;
                version(0, 1, 1): 8; version(0, 1, 2): 70; version(0, 1, 3): 6""");
    }

    private static void newVersions() {
        for (int number = 0; number < 3; number++) {
            Script.check("Otherwise it puts a new version whose write timestamp is T and whose read timestamp is 0: protocol " + number,
                    protocol(number), """
                    read(2, 0): 0; write(2, 0, -3): 0; versionCount(0): 2; version(0, 0, 1): 3; version(0, 1, 0): 3; version(0, 1, 1): 0;
                    version(0, 1, 2): -3; version(0, 1, 3): 2; version(0, 1, 4): 0""");
            Script.check("a version that is put where a removed one was has the read timestamp 0: protocol " + number, protocol(number), """
                    write(2, 0, 3): 0; read(2, 0): 3; abort(2): 1; write(3, 0, 4): 0; version(0, 1, 0): 4; version(0, 1, 1): 0;
                    version(0, 0, 1): 0""");
        }
    }
}
