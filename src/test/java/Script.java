import java.lang.reflect.InvocationTargetException;
import java.lang.reflect.Method;
import java.util.ArrayList;
import java.util.HashMap;
import java.util.List;
import java.util.Map;
import java.util.regex.Matcher;
import java.util.regex.Pattern;

/**
 * Runs calls that are written as in the document's examples, "begin(1): 0; commit(0): true", on a new object.
 * An exception is written throws.IllegalStateException or, shorter, !IllegalState; any answer is allowed behind "_".
 * text('r0 c'): 4 appends the characters one by one, and answers what the last append answered.
 */
final class Script {
    private static final Pattern CALL = Pattern.compile("(\\w+)\\((.*)\\): (\\S+)");
    private static final Map<String, Method> METHODS = new HashMap<>();
    private static int calls = 0;
    private static int wrong = 0;

    private Script() {
    }

    static void check(String name, String... parts) {
        checkOn(new TimestampScheduler(), name, parts);
    }

    /** The refused calls answer what is due, and behind them the object answers all as another one without them. */
    static void refused(String name, String prepare, String refusedCalls) {
        TimestampScheduler bench = new TimestampScheduler();
        checkOn(bench, name, prepare, refusedCalls);
        TimestampScheduler twin = new TimestampScheduler();
        checkOn(twin, name, prepare);
        expect(name + ": that the refused calls change nothing", Portrait.last(bench).equals(Portrait.last(twin)));
    }

    /** The pattern once for each number; %1$d is the number, %2$d the next one. */
    static String numbered(int first, int last, String pattern) {
        StringBuilder all = new StringBuilder();
        for (int number = first; number <= last; number++) {
            all.append(pattern.formatted(number, number + 1));
        }
        return all.toString();
    }

    static void checkOn(TimestampScheduler bench, String name, String... parts) {
        for (String part : parts) {
            for (String call : part.split(";\\s*")) {
                if (!call.isBlank()) {
                    checkCall(name, bench, call.strip());
                }
            }
        }
    }

    static void expect(String name, boolean holds) {
        calls++;
        if (!holds) {
            wrong++;
            System.out.println(name + " does not hold");
        }
    }

    static void end() {
        System.out.println(calls + " answers checked, " + wrong + " wrong");
        if (wrong > 0 || calls == 0) {
            System.exit(1);
        }
    }

    private static void checkCall(String name, TimestampScheduler bench, String call) {
        Matcher matcher = CALL.matcher(call);
        if (!matcher.matches()) {
            throw new IllegalArgumentException(name + ": not a call: " + call);
        }
        String due = dueAnswer(matcher.group(3));
        String got = matcher.group(1).equals("text")
                ? appendText(bench, matcher.group(2))
                : answer(bench, matcher.group(1), arguments(matcher.group(2)));
        calls++;
        if (!due.equals("_") && !due.equals(got)) {
            wrong++;
            System.out.println(name + ": " + call + " is due, answered " + got);
        }
    }

    private static String dueAnswer(String written) {
        if (written.startsWith("!")) {
            return "throws." + written.substring(1) + "Exception";
        }
        return written.equals("ABORTED") ? "-2147483648" : written;
    }

    private static String appendText(TimestampScheduler bench, String quoted) {
        int length = 0;
        for (char character : quoted.substring(1, quoted.length() - 1).toCharArray()) {
            length = bench.append(character);
        }
        return String.valueOf(length);
    }

    private static List<Integer> arguments(String written) {
        List<Integer> arguments = new ArrayList<>();
        for (String argument : written.isEmpty() ? new String[0] : written.split(", ")) {
            arguments.add(argument.equals("MAX") ? Integer.MAX_VALUE
                    : argument.equals("MIN") ? Integer.MIN_VALUE : Integer.valueOf(argument));
        }
        return arguments;
    }

    /** Calls a method by its name on any object that has the document's face. */
    static String answer(Object bench, String name, List<Integer> arguments) {
        return answer(bench, METHODS.computeIfAbsent(bench.getClass() + name, key -> found(bench, name)), arguments);
    }

    private static Method found(Object bench, String name) {
        for (Method method : bench.getClass().getDeclaredMethods()) {
            if (method.getName().equals(name)) {
                return method;
            }
        }
        throw new IllegalArgumentException("no method " + name);
    }

    private static String answer(Object bench, Method method, List<Integer> arguments) {
        Object[] given = new Object[arguments.size()];
        for (int index = 0; index < given.length; index++) {
            boolean isChar = method.getParameterTypes()[index] == char.class;
            given[index] = isChar ? (Object) (char) arguments.get(index).intValue() : arguments.get(index);
        }
        try {
            Object answer = method.invoke(bench, given);
            return answer == null ? "nothing" : answer.toString();
        } catch (InvocationTargetException exception) {
            return "throws." + thrownName(exception.getCause());
        } catch (IllegalAccessException exception) {
            throw new IllegalArgumentException(exception);
        }
    }

    /** What the machine throws has another name here, so that it is never the due one. */
    private static String thrownName(Throwable thrown) {
        boolean machines = thrown instanceof ArithmeticException && "/ by zero".equals(thrown.getMessage());
        return machines ? "machine" : thrown.getClass().getSimpleName();
    }
}
