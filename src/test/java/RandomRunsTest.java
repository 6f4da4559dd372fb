import java.util.ArrayList;
import java.util.List;
import java.util.Random;

/** Compares the program with the model over runs of 512 calls that are drawn from a fixed seed. */
public final class RandomRunsTest {
    private static final int RUNS = 600;
    private static final int CALLS = 512;
    private static final String[] TEXT_PARTS = {"r", "w", "a", "c", "x", "0", "1", "7", "8", "=", "+", "-", " ", " ", "r0", "w1=5",
        "a2+3", "a1-12", "w0=-7", " c", " x", "12345", "q"};

    public static void main(String[] args) {
        for (int seed = 0; seed < RUNS; seed++) {
            Random random = new Random(seed);
            TimestampScheduler bench = new TimestampScheduler();
            Model model = new Model();
            List<String> told = new ArrayList<>();
            boolean same = true;
            for (int call = 0; call < CALLS && same; call++) {
                same = call % 64 == 63 ? everythingIsSame(bench, model) : compareCall(random, bench, model, told);
            }
            Script.expect("seed " + seed + " after " + (same ? "" : String.join("; ", told)) + " all answers are the same", same);
        }
        Script.end();
    }

    private static boolean compareCall(Random random, TimestampScheduler bench, Model model, List<String> told) {
        if (random.nextInt(12) == 0) {
            return compareText(random, bench, model, told);
        }
        String name = drawnName(random);
        List<Integer> arguments = drawnArguments(random, name, bench.transactionCount());
        String before = random.nextInt(40) == 0 ? Portrait.of(bench) : null;
        String got = Script.answer(bench, name, arguments);
        String due = Script.answer(model, name, arguments);
        told.add(name + arguments + ": " + got + (got.equals(due) ? "" : " but due is " + due));
        boolean unchanged = before == null || !got.startsWith("throws") || name.equals("export") || name.equals("run")
                || before.equals(Portrait.of(bench));
        return got.equals(due) && unchanged;
    }

    private static boolean compareText(Random random, TimestampScheduler bench, Model model, List<String> told) {
        StringBuilder text = new StringBuilder();
        int parts = 1 + random.nextInt(5);
        for (int part = 0; part < parts; part++) {
            boolean likely = random.nextInt(3) > 0;
            String drawn = TEXT_PARTS[likely ? 14 + random.nextInt(5) : random.nextInt(TEXT_PARTS.length)];
            text.append(likely && text.length() > 0 ? " " : "").append(drawn);
        }
        boolean same = true;
        for (char character : text.toString().toCharArray()) {
            List<Integer> arguments = List.of((int) character);
            String got = Script.answer(bench, "append", arguments);
            told.add("append(" + character + "): " + got);
            same &= got.equals(Script.answer(model, "append", arguments));
        }
        return same;
    }

    private static String drawnName(Random random) {
        String[] often = {"read", "read", "write", "write", "add", "begin", "commit", "restartNext"};
        String[] seldom = {"abort", "run", "collect", "check", "horizon", "dependencies", "cascade", "transaction", "operation",
            "versionCount", "version", "valueAt", "event", "eventCount", "total", "abortShare", "errorPosition", "allocate",
            "export", "divide", "cloneRow", "copyRow", "snapshot", "restore", "reset", "transactionCount"};
        if (random.nextInt(5) < 3) {
            return often[random.nextInt(often.length)];
        }
        String name = seldom[random.nextInt(seldom.length)];
        boolean ends = name.equals("reset") || name.equals("restore");
        return ends && random.nextInt(3) > 0 ? "run" : name;
    }

    private static List<Integer> drawnArguments(Random random, String name, int transactions) {
        int transaction = drawn(random, transactions + (random.nextInt(6) == 0 ? 1 : 0));
        int item = drawn(random, random.nextInt(4) > 0 ? 3 : 9);
        int slot = drawn(random, random.nextInt(9) == 0 ? 4 : 3);
        return switch (name) {
            case "reset" -> List.of(drawn(random, random.nextInt(9) == 0 ? 4 : 3));
            case "begin" -> List.of(drawn(random, 11));
            case "read" -> List.of(transaction, item);
            case "write", "add" -> List.of(transaction, item, drawnValue(random));
            case "commit", "abort", "run", "dependencies", "cascade" -> List.of(transaction);
            case "transaction" -> List.of(transaction, drawn(random, 6));
            case "operation" -> List.of(transaction, drawn(random, 8), drawn(random, 5));
            case "versionCount" -> List.of(item);
            case "version" -> List.of(item, drawn(random, 5), drawn(random, 6));
            case "valueAt" -> List.of(item, drawn(random, 30));
            case "event" -> List.of(drawn(random, 51), drawn(random, 4));
            case "total" -> List.of(drawn(random, 10));
            case "allocate" -> List.of(slot, drawn(random, 3), random.nextBoolean() ? drawn(random, 32) : random.nextInt(5));
            case "export" -> List.of(slot, item);
            case "divide" -> List.of(slot, drawn(random, 5), random.nextInt(4) == 0 ? drawnValue(random) : drawn(random, 4));
            case "cloneRow", "copyRow" -> List.of(slot, drawn(random, 3));
            default -> List.of();
        };
    }

    private static int drawn(Random random, int bound) {
        return random.nextInt(60) == 0 ? drawnValue(random) : bound > 0 ? random.nextInt(bound) : 0;
    }

    private static int drawnValue(Random random) {
        int[] edges = {0, 1, -1, Integer.MAX_VALUE, Integer.MIN_VALUE, 16777217};
        return random.nextInt(4) == 0 ? edges[random.nextInt(edges.length)] : random.nextInt(41) - 20;
    }

    private static boolean everythingIsSame(TimestampScheduler bench, Model model) {
        return Portrait.of(bench).equals(Portrait.of(model));
    }
}
