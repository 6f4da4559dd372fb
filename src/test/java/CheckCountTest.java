import java.lang.reflect.Array;
import java.lang.reflect.Field;

/**
 * Promise 23. The protocols keep check() at 0, whatever is called, so that its counting can only be seen on an object
 * that was falsified from outside: this test changes results and values that the object holds, and asks again.
 */
public final class CheckCountTest {
    /** Timestamps 1 to 4: the first two are committed, the third is active and the fourth aborted. */
    private static final String RUN = "begin(0): 0; begin(0): 1; begin(0): 2; begin(0): 3; add(0, 0, 5): 5; read(0, 0): 5; "
            + "write(0, 1, 9): 0; commit(0): true; read(1, 1): 9; write(1, 0, 7): 0;"
            + "commit(1): true; read(2, 1): 9; write(2, 2, 4): 0; read(3, 1): 9; abort(3): 1; check(): 0";

    public static void main(String[] args) {
        results();
        values();
        order();
        Script.end();
    }

    private static void results() {
        expectAfterResult("the result of an addition", 0, 0, 1);
        expectAfterResult("the result of a read", 0, 1, 1);
        expectAfterResult("the result of a read of another's version", 1, 0, 1);
        expectAfterResult("the result of a write is none of a read", 0, 2, 0);
        expectAfterResult("an active transaction does not count", 2, 0, 0);
        expectAfterResult("an aborted transaction does not count", 3, 0, 0);
        TimestampScheduler bench = run();
        falsifyResult(bench, 0, 0);
        falsifyResult(bench, 0, 1);
        falsifyResult(bench, 1, 0);
        falsifyValue(bench, 7, 0);
        Script.expect("all differences are counted together", bench.check() == 4);
        Script.expect("a second check counts anew", bench.check() == 4);
    }

    private static void values() {
        expectAfterValue("the last committed version has not the value", 0, 2, 1);
        expectAfterValue("an earlier version does not count", 0, 1, 0);
        expectAfterValue("the last committed version of item 1", 1, 1, 1);
        expectAfterValue("an uncommitted last version does not count", 2, 1, 0);
        expectAfterValue("the last committed version before an uncommitted one", 2, 0, 1);
        expectAfterValue("the first version of an item that was never written", 7, 0, 1);
    }

    /** The committed transactions 0 and 1 change places in the order of the timestamps. */
    private static void order() {
        TimestampScheduler bench = run();
        Object[] transactions = (Object[]) held(held(bench, "bench"), "transactions");
        putInt(transactions[0], "timestamp", 2);
        putInt(transactions[1], "timestamp", 1);
        Script.expect("the order is that of the timestamps: the addition, both reads and item 0", bench.check() == 4);
    }

    private static void expectAfterResult(String name, int transaction, int operation, int due) {
        TimestampScheduler bench = run();
        falsifyResult(bench, transaction, operation);
        Script.expect(name, bench.check() == due);
    }

    private static void expectAfterValue(String name, int item, int version, int due) {
        TimestampScheduler bench = run();
        falsifyValue(bench, item, version);
        Script.expect(name, bench.check() == due);
    }

    private static TimestampScheduler run() {
        TimestampScheduler bench = new TimestampScheduler();
        Script.checkOn(bench, "promise 23", RUN);
        return bench;
    }

    private static void falsifyResult(TimestampScheduler bench, int transaction, int operation) {
        falsify(held(((Object[]) held(held(bench, "bench"), "transactions"))[transaction], "results"), operation);
    }

    private static void falsifyValue(TimestampScheduler bench, int item, int version) {
        falsify(held(((Object[]) held(held(bench, "bench"), "chains"))[item], "values"), version);
    }

    private static void falsify(Object ints, int index) {
        Array.setInt(ints, index, Array.getInt(ints, index) + 1);
    }

    private static Object held(Object holder, String name) {
        try {
            return field(holder, name).get(holder);
        } catch (IllegalAccessException exception) {
            throw new IllegalArgumentException(exception);
        }
    }

    private static void putInt(Object holder, String name, int value) {
        try {
            field(holder, name).setInt(holder, value);
        } catch (IllegalAccessException exception) {
            throw new IllegalArgumentException(exception);
        }
    }

    private static Field field(Object holder, String name) {
        try {
            Field field = holder.getClass().getDeclaredField(name);
            field.setAccessible(true);
            return field;
        } catch (NoSuchFieldException exception) {
            throw new IllegalArgumentException(exception);
        }
    }
}
