import java.util.ArrayList;
import java.util.Arrays;
import java.util.List;

/**
 * All that an object with the document's face answers, in one text, to compare two objects or one object at two times.
 * It may take more than 512 calls: the program counts none, so the later answers are as good as the first ones.
 */
final class Portrait {
    private Portrait() {
    }

    /** All that can be asked without a change; an element of a row is asked by a division by 1. */
    static String of(Object bench) {
        StringBuilder all = new StringBuilder();
        for (String name : new String[] {"transactionCount", "horizon", "check", "eventCount", "abortShare", "errorPosition"}) {
            note(all, bench, name);
        }
        noteTransactions(all, bench);
        noteItems(all, bench);
        int events = asked(bench, "eventCount");
        for (int index = 0; index < events; index++) {
            noteTable(all, bench, "event", new int[] {index}, 3);
        }
        noteTable(all, bench, "total", new int[0], 9);
        noteRows(all, bench);
        return all.toString();
    }

    /** Also the snapshot, the protocol and the input buffer, which can only be seen by calls that change the object. */
    static String last(Object bench) {
        StringBuilder all = new StringBuilder(of(bench));
        note(all, bench, "restore");
        all.append(of(bench));
        note(all, bench, "reset", 2);
        note(all, bench, "begin", 0);
        note(all, bench, "run", 0);
        all.append(of(bench));
        return all.toString();
    }

    private static void noteTransactions(StringBuilder all, Object bench) {
        int transactions = asked(bench, "transactionCount");
        for (int number = 0; number < transactions; number++) {
            note(all, bench, "dependencies", number);
            note(all, bench, "cascade", number);
            noteTable(all, bench, "transaction", new int[] {number}, 5);
            int operations = asked(bench, "transaction", number, 4);
            for (int index = 0; index < operations; index++) {
                noteTable(all, bench, "operation", new int[] {number, index}, 4);
            }
        }
    }

    private static void noteItems(StringBuilder all, Object bench) {
        for (int item = 0; item < 8; item++) {
            int versions = asked(bench, "versionCount", item);
            for (int index = 0; index < versions; index++) {
                noteTable(all, bench, "version", new int[] {item, index}, 5);
            }
        }
    }

    private static void noteRows(StringBuilder all, Object bench) {
        for (int slot = 0; slot < 3; slot++) {
            String element = "";
            for (int index = 0; index < 31 && !element.startsWith("throws"); index++) {
                element = Script.answer(bench, "divide", List.of(slot, index, 1));
                all.append(element).append(' ');
            }
        }
    }

    private static void noteTable(StringBuilder all, Object bench, String name, int[] first, int columns) {
        for (int column = 0; column < columns; column++) {
            int[] arguments = Arrays.copyOf(first, first.length + 1);
            arguments[first.length] = column;
            note(all, bench, name, arguments);
        }
    }

    private static void note(StringBuilder all, Object bench, String name, int... arguments) {
        all.append(Script.answer(bench, name, listed(arguments))).append(' ');
    }

    private static int asked(Object bench, String name, int... arguments) {
        return Integer.parseInt(Script.answer(bench, name, listed(arguments)));
    }

    private static List<Integer> listed(int... arguments) {
        List<Integer> given = new ArrayList<>();
        for (int argument : arguments) {
            given.add(argument);
        }
        return given;
    }
}
