import java.util.ArrayList;
import java.util.List;

/** Every method with every combination of arguments at the document's limits, in several states, compared with the model. */
public final class EdgeSweepTest {
    private static final int[] EDGES = {Integer.MIN_VALUE, -1, 0, 1, 2, 3, 4, 5, 7, 8, 9, 10, 15, 16, 17, 19, 20, 30, 31, 49, 50, Integer.MAX_VALUE};
    private static final int[] VALUES = {Integer.MIN_VALUE, -1, 0, Integer.MAX_VALUE};
    private static final int[] CODES = {0, 9, 31, 32, 48, 99, 126, 127, 128, 255, 65535};
    private static final String[] METHODS = {"reset 1", "begin 1", "read 2", "write 3", "add 3", "commit 1", "abort 1", "restartNext 0",
            "append 1", "run 1", "errorPosition 0",
        "transactionCount 0", "transaction 2", "dependencies 1", "cascade 1", "operation 3", "versionCount 1", "version 3", "valueAt 2",
        "collect 0", "horizon 0", "check 0",
        "eventCount 0", "event 2", "total 1", "abortShare 0", "allocate 3", "export 2", "divide 3", "cloneRow 2", "copyRow 2",
        "snapshot 0", "restore 0"};

    private TimestampScheduler bench;
    private Model model;
    private String before;

    public static void main(String[] args) {
        for (String state : states()) {
            new EdgeSweepTest().sweep(state);
        }
        Script.end();
    }

    /** The empty object, all states of transactions under each protocol, and all that can be full. */
    private static List<String> states() {
        List<String> states = new ArrayList<>();
        states.add("");
        for (int protocol = 0; protocol < 3; protocol++) {
            states.add("reset(" + protocol + "); begin(1); begin(2); begin(3); begin(4); write(0, 0, 5); read(1, 0); commit(1); "
                    + "write(2, 1, 7); commit(2); abort(3); begin(5); begin(5); read(5, 2);"
                    + "append(113); run(0); append(114); append(48); allocate(0, 0, 2); allocate(1, 1, 3); export(0, 0); snapshot(); "
                    + "begin(0)");
        }
        StringBuilder full = new StringBuilder();
        for (int number = 0; number < 16; number++) {
            full.append("begin(%1$d); add(%2$d, 0, %3$d); ".formatted(number % 10, number, number * 1000000000));
        }
        full.append("write(15, 1, -7); ".repeat(19)).append("append(99); ".repeat(60)).append("allocate(0, 1, 30); allocate(1, 1, 16); "
                + "allocate(2, 0, 17); export(0, 0); export(2, 0); ");
        states.add(full.toString());
        states.add(full + "abort(0); snapshot(); restartNext(); restartNext()");
        states.add(full + "commit(3); commit(1); commit(0); commit(2); collect()");
        return states;
    }

    private void sweep(String state) {
        for (String method : METHODS) {
            String[] parts = method.split(" ");
            makeNew(state);
            boolean same = true;
            for (List<Integer> arguments : combinations(parts[0], Integer.parseInt(parts[1]))) {
                same &= compare(state, parts[0], arguments);
            }
            same &= Portrait.last(bench).equals(Portrait.last(model));
            Script.expect("all answers of " + parts[0] + " behind '" + state + "'", same);
        }
    }

    private void makeNew(String state) {
        bench = new TimestampScheduler();
        model = new Model();
        for (String call : state.isEmpty() ? new String[0] : state.split("; *")) {
            String name = call.substring(0, call.indexOf('('));
            List<Integer> arguments = new ArrayList<>();
            String written = call.substring(call.indexOf('(') + 1, call.length() - 1);
            for (String argument : written.isEmpty() ? new String[0] : written.split(", ")) {
                arguments.add(Integer.valueOf(argument));
            }
            Script.answer(bench, name, arguments);
            Script.answer(model, name, arguments);
        }
        before = Portrait.of(bench);
    }

    /** A call that is refused must leave all as it was; behind any other call the objects are made anew. */
    private boolean compare(String state, String name, List<Integer> arguments) {
        String got = Script.answer(bench, name, arguments);
        String due = Script.answer(model, name, arguments);
        boolean same = got.equals(due);
        if (!same) {
            System.out.println(name + arguments + " answered " + got + ", due is " + due);
        }
        boolean changes = !got.startsWith("throws") || name.equals("export") || name.equals("run");
        if (changes && !isQuestion(name)) {
            same &= Portrait.of(bench).equals(Portrait.of(model));
            makeNew(state);
        } else if (arguments.hashCode() % 50 == 0) {
            same &= Portrait.of(bench).equals(before);
        }
        return same;
    }

    private static boolean isQuestion(String name) {
        return List.of("errorPosition", "transactionCount", "transaction", "dependencies", "cascade", "operation", "versionCount",
                "version", "valueAt", "horizon", "check", "eventCount",
                "event", "total", "abortShare").contains(name);
    }

    private static List<List<Integer>> combinations(String name, int count) {
        List<List<Integer>> all = new ArrayList<>();
        all.add(List.of());
        for (int place = 0; place < count; place++) {
            int[] values = name.equals("append") ? CODES : thirdIsAnyInt(name, place) ? VALUES : EDGES;
            List<List<Integer>> longer = new ArrayList<>();
            for (List<Integer> shorter : all) {
                for (int value : values) {
                    List<Integer> arguments = new ArrayList<>(shorter);
                    arguments.add(value);
                    longer.add(arguments);
                }
            }
            all = longer;
        }
        return all;
    }

    private static boolean thirdIsAnyInt(String name, int place) {
        return place == 2 && (name.equals("write") || name.equals("add") || name.equals("divide"));
    }
}
