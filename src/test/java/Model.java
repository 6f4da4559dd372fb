import java.util.ArrayDeque;
import java.util.ArrayList;
import java.util.Arrays;
import java.util.Comparator;
import java.util.Deque;
import java.util.List;
import java.util.NoSuchElementException;
import java.util.TreeMap;
import java.util.TreeSet;
import java.util.regex.Matcher;
import java.util.regex.Pattern;

/** The document told a second time, with the Java library and other means, to compare the program with. */
final class Model {
    private static final String NUMBER = "\\d{1,4}";
    private static final String OPERATION = "(?:r[0-7]|w[0-7]=-?" + NUMBER + "|a[0-7][+-]" + NUMBER + ")";
    private static final Pattern PROGRAM = Pattern.compile("(?:[cx]|" + OPERATION + "(?: " + OPERATION + ")*(?: [cx])?)?");

    record Operation(int kind, int item, int operand, int[] result) {
        Operation copy() {
            return new Operation(kind, item, operand, result.clone());
        }
    }

    static final class Version {
        int written;
        int read;
        int value;
        int writer = -1;

        Version copy() {
            Version copy = new Version();
            copy.written = written;
            copy.read = read;
            copy.value = value;
            copy.writer = writer;
            return copy;
        }
    }

    static final class Member {
        int number;
        int state;
        int time;
        int priority;
        int aborts;
        TreeSet<Integer> waitsFor = new TreeSet<>();
        List<Operation> operations = new ArrayList<>();

        Member copy() {
            Member copy = new Member();
            copy.number = number;
            copy.state = state;
            copy.time = time;
            copy.priority = priority;
            copy.aborts = aborts;
            copy.waitsFor.addAll(waitsFor);
            operations.forEach(operation -> copy.operations.add(operation.copy()));
            return copy;
        }
    }

    static final class World {
        int protocol = 2;
        int clock = 1;
        List<Member> members = new ArrayList<>();
        List<TreeMap<Integer, Version>> items = new ArrayList<>();
        Deque<int[]> log = new ArrayDeque<>();
        int[] totals = new int[9];

        World(int protocol) {
            this.protocol = protocol;
            for (int item = 0; item < 8; item++) {
                items.add(new TreeMap<>());
                items.get(item).put(0, new Version());
            }
        }

        World copy() {
            World copy = new World(protocol);
            copy.clock = clock;
            members.forEach(member -> copy.members.add(member.copy()));
            for (int item = 0; item < 8; item++) {
                TreeMap<Integer, Version> chain = copy.items.get(item);
                chain.clear();
                items.get(item).forEach((time, version) -> chain.put(time, version.copy()));
            }
            copy.log.addAll(log);
            copy.totals = totals.clone();
            return copy;
        }
    }

    private static final class Stop extends Exception {
        private static final long serialVersionUID = 1;
    }

    private World world = new World(2);
    private World kept = null;
    private String buffer = "";
    private Integer error = null;
    private final Object[] slots = new Object[3];

    int reset(int protocol) {
        if (protocol < 0 || protocol > 2) {
            throw new IllegalArgumentException();
        }
        int previous = world.protocol;
        world = new World(protocol);
        return previous;
    }

    int begin(int priority) {
        if (priority < 0 || priority > 9) {
            throw new IllegalArgumentException();
        }
        if (world.members.size() == 16) {
            throw new IllegalStateException();
        }
        Member member = new Member();
        member.number = world.members.size();
        member.priority = priority;
        member.time = world.clock++;
        world.members.add(member);
        log(0, member, -1);
        return member.number;
    }

    int read(int transaction, int item) {
        return ask(transaction, item, 0, 0);
    }

    int write(int transaction, int item, int value) {
        return ask(transaction, item, 1, value);
    }

    int add(int transaction, int item, int number) {
        return ask(transaction, item, 2, number);
    }

    private int ask(int transaction, int item, int kind, int operand) {
        Member member = member(transaction);
        item(item);
        if (member.state != 0) {
            throw new IllegalStateException();
        }
        if (member.operations.size() == 20) {
            throw new UnsupportedOperationException();
        }
        return take(member, new Operation(kind, item, operand, new int[1]));
    }

    private int take(Member member, Operation operation) {
        member.operations.add(operation);
        try {
            return perform(member, operation);
        } catch (Stop stop) {
            kill(member, 6, operation.item());
            return Integer.MIN_VALUE;
        }
    }

    private int perform(Member member, Operation operation) throws Stop {
        if (operation.kind() == 1) {
            return put(member, operation.item(), operation.operand());
        }
        int value = fetch(member, operation.item());
        if (operation.kind() == 2) {
            put(member, operation.item(), value + operation.operand());
        }
        operation.result()[0] = value;
        return operation.kind() == 2 ? value + operation.operand() : value;
    }

    private int fetch(Member member, int item) throws Stop {
        TreeMap<Integer, Version> chain = world.items.get(item);
        Version version = world.protocol == 2 ? chain.floorEntry(member.time).getValue() : chain.lastEntry().getValue();
        if (version.written > member.time) {
            throw new Stop();
        }
        version.read = Math.max(version.read, member.time);
        if (version.writer >= 0 && version.writer != member.number && world.members.get(version.writer).state < 2) {
            member.waitsFor.add(version.writer);
        }
        log(1, member, item);
        return version.value;
    }

    private int put(Member member, int item, int value) throws Stop {
        TreeMap<Integer, Version> chain = world.items.get(item);
        boolean late = world.protocol == 2
                ? chain.floorEntry(member.time).getValue().read > member.time
                : chain.values().stream().anyMatch(version -> version.read > member.time);
        boolean obsolete = world.protocol != 2 && chain.lastKey() > member.time;
        if (late || obsolete && world.protocol == 0) {
            throw new Stop();
        }
        Version version = chain.computeIfAbsent(member.time, time -> new Version());
        version.written = member.time;
        version.writer = member.number;
        version.value = value;
        log(obsolete ? 3 : 2, member, item);
        return obsolete ? 1 : 0;
    }

    private int kill(Member member, int kind, int item) {
        world.items.forEach(chain -> chain.values().removeIf(version -> version.writer == member.number));
        member.state = 3;
        member.aborts++;
        member.waitsFor.clear();
        log(kind, member, item);
        int killed = 1;
        for (Member other : world.members) {
            if (other.state < 2 && other.waitsFor.contains(member.number)) {
                killed += kill(other, 7, -1);
            }
        }
        return killed;
    }

    boolean commit(int transaction) {
        Member member = member(transaction);
        if (member.state != 0) {
            throw new IllegalStateException();
        }
        return settle(member);
    }

    private boolean settle(Member member) {
        if (!open(member).isEmpty()) {
            member.state = 1;
            log(4, member, -1);
            return false;
        }
        Member next = member;
        while (next != null) {
            next.state = 2;
            log(5, next, -1);
            next = world.members.stream().filter(other -> other.state == 1 && open(other).isEmpty())
                    .min(Comparator.comparingInt(other -> other.time)).orElse(null);
        }
        return true;
    }

    private List<Integer> open(Member member) {
        return member.waitsFor.stream().filter(number -> world.members.get(number).state < 2).toList();
    }

    int abort(int transaction) {
        Member member = member(transaction);
        if (member.state > 1) {
            throw new IllegalStateException();
        }
        return kill(member, 6, -1);
    }

    int restartNext() {
        Member member = world.members.stream().filter(other -> other.state == 3)
                .min(Comparator.<Member>comparingInt(other -> -other.priority).thenComparingInt(other -> -other.aborts)
                        .thenComparingInt(other -> other.number))
                .orElseThrow(NoSuchElementException::new);
        member.time = world.clock++;
        member.state = 0;
        log(8, member, -1);
        for (Operation operation : member.operations) {
            try {
                perform(member, operation);
            } catch (Stop stop) {
                kill(member, 6, operation.item());
                break;
            }
        }
        return member.number;
    }

    int append(char character) {
        if (character < 32 || character > 126) {
            throw new IllegalArgumentException();
        }
        if (buffer.length() == 60) {
            throw new IllegalStateException();
        }
        buffer += character;
        return buffer.length();
    }

    int run(int transaction) {
        Member member = member(transaction);
        if (member.state != 0) {
            throw new IllegalStateException();
        }
        String text = buffer;
        buffer = "";
        if (!PROGRAM.matcher(text).matches()) {
            int length = 0;
            while (length < text.length() && canGoOn(text.substring(0, length + 1))) {
                length++;
            }
            error = length;
            throw new IllegalArgumentException();
        }
        List<String> parts = text.isEmpty() ? List.of() : Arrays.asList(text.split(" "));
        List<String> wanted = parts.stream().filter(part -> part.length() > 1).toList();
        if (member.operations.size() + wanted.size() > 20) {
            throw new UnsupportedOperationException();
        }
        int asked = 0;
        for (String part : parts) {
            if (member.state != 0) {
                break;
            }
            if (part.equals("c")) {
                settle(member);
            } else if (part.equals("x")) {
                kill(member, 6, -1);
            } else {
                asked++;
                String number = part.substring(2).replace("=", "").replace("+", "");
                take(member, new Operation("rwa".indexOf(part.charAt(0)), part.charAt(1) - '0',
                        number.isEmpty() ? 0 : Integer.parseInt(number), new int[1]));
            }
        }
        return asked;
    }

    private static boolean canGoOn(String start) {
        Matcher matcher = PROGRAM.matcher(start);
        return matcher.matches() || matcher.hitEnd();
    }

    int errorPosition() {
        if (error == null) {
            throw new NoSuchElementException();
        }
        return error;
    }

    int transactionCount() {
        return world.members.size();
    }

    int transaction(int transaction, int what) {
        Member member = member(transaction);
        if (what < 0 || what > 4) {
            throw new IllegalArgumentException();
        }
        return new int[] {member.state, member.time, member.priority, member.aborts, member.operations.size()}[what];
    }

    int dependencies(int transaction) {
        return open(member(transaction)).stream().mapToInt(number -> 1 << number).sum();
    }

    int cascade(int transaction) {
        Member member = member(transaction);
        if (member.state > 1) {
            return 0;
        }
        int mask = 1 << transaction;
        for (Member other : world.members) {
            if (open(other).contains(transaction)) {
                mask |= cascade(other.number);
            }
        }
        return mask;
    }

    int operation(int transaction, int index, int what) {
        Member member = member(transaction);
        Operation operation = at(member.operations, index);
        if (what < 0 || what > 3) {
            throw new IllegalArgumentException();
        }
        return new int[] {operation.kind(), operation.item(), operation.operand(), operation.result()[0]}[what];
    }

    int versionCount(int item) {
        return item(item).size();
    }

    int version(int item, int index, int what) {
        Version version = at(new ArrayList<>(item(item).values()), index);
        if (what < 0 || what > 4) {
            throw new IllegalArgumentException();
        }
        return new int[] {version.written, version.read, version.value, version.writer, isCommitted(version) ? 1 : 0}[what];
    }

    private boolean isCommitted(Version version) {
        return version.writer < 0 || world.members.get(version.writer).state == 2;
    }

    private Version committedAt(int item, int time) {
        return item(item).headMap(time, true).descendingMap().values().stream().filter(this::isCommitted)
                .findFirst().orElseThrow(NoSuchElementException::new);
    }

    int valueAt(int item, int timestamp) {
        return committedAt(item, timestamp).value;
    }

    int collect() {
        int removed = 0;
        for (int item = 0; item < 8; item++) {
            var old = item(item).headMap(committedAt(item, horizon()).written, false);
            removed += old.size();
            old.clear();
        }
        return removed;
    }

    int horizon() {
        return world.members.stream().filter(member -> member.state < 2).mapToInt(member -> member.time)
                .min().orElse(world.clock);
    }

    int check() {
        int[] values = new int[8];
        int different = 0;
        for (Member member : world.members.stream().filter(member -> member.state == 2)
                .sorted(Comparator.comparingInt(member -> member.time)).toList()) {
            for (Operation operation : member.operations) {
                if (operation.kind() != 1 && operation.result()[0] != values[operation.item()]) {
                    different++;
                }
                int base = operation.kind() == 1 ? 0 : values[operation.item()];
                values[operation.item()] = base + operation.operand();
            }
        }
        for (int item = 0; item < 8; item++) {
            different += valueAt(item, Integer.MAX_VALUE) == values[item] ? 0 : 1;
        }
        return different;
    }

    int eventCount() {
        return world.log.size();
    }

    int event(int index, int column) {
        int[] event = at(new ArrayList<>(world.log), index);
        if (column < 0 || column > 2) {
            throw new IndexOutOfBoundsException();
        }
        return event[column];
    }

    private void log(int kind, Member member, int item) {
        world.totals[kind]++;
        world.log.addLast(new int[] {kind, member.number, item});
        if (world.log.size() > 50) {
            world.log.removeFirst();
        }
    }

    int total(int kind) {
        if (kind < 0 || kind > 8) {
            throw new IllegalArgumentException();
        }
        return world.totals[kind];
    }

    double abortShare() {
        if (world.clock == 1) {
            throw new ArithmeticException();
        }
        return ((double) world.totals[6] + world.totals[7]) / (world.clock - 1);
    }

    void allocate(int slot, int type, int length) {
        slot(slot);
        if (type < 0 || type > 1 || length < 0 || length > 30) {
            throw new IllegalArgumentException();
        }
        slots[slot] = type == 0 ? new float[length] : new int[length];
    }

    int export(int slot, int item) {
        slot(slot);
        TreeMap<Integer, Version> chain = item(item);
        Object row = full(slot);
        int index = 0;
        for (Version version : chain.values()) {
            if (index == java.lang.reflect.Array.getLength(row)) {
                throw new IndexOutOfBoundsException();
            }
            if (row instanceof float[] floats) {
                floats[index++] = version.value;
            } else {
                ((int[]) row)[index++] = version.value;
            }
        }
        return index;
    }

    float divide(int slot, int index, int divisor) {
        slot(slot);
        Object row = full(slot);
        if (divisor == 0) {
            throw new ArithmeticException();
        }
        if (index < 0 || index >= java.lang.reflect.Array.getLength(row)) {
            throw new NoSuchElementException();
        }
        if (row instanceof float[] floats) {
            return floats[index] /= divisor;
        }
        return ((int[]) row)[index] /= divisor;
    }

    int cloneRow(int source, int target) {
        slot(source);
        slot(target);
        Object row = full(source);
        slots[target] = row instanceof float[] floats ? floats.clone() : ((int[]) row).clone();
        return java.lang.reflect.Array.getLength(row);
    }

    int copyRow(int source, int target) {
        slot(source);
        slot(target);
        Object from = full(source);
        Object to = full(target);
        if (from.getClass() != to.getClass()) {
            throw new IllegalArgumentException();
        }
        int length = java.lang.reflect.Array.getLength(from);
        if (length > java.lang.reflect.Array.getLength(to)) {
            throw new NoSuchElementException();
        }
        System.arraycopy(from, 0, to, 0, length);
        return length;
    }

    int snapshot() {
        kept = world.copy();
        return world.members.size();
    }

    int restore() {
        if (kept == null) {
            throw new IllegalStateException();
        }
        world = kept.copy();
        return world.members.size();
    }

    private Member member(int number) {
        return at(world.members, number);
    }

    private TreeMap<Integer, Version> item(int item) {
        return at(world.items, item);
    }

    private void slot(int slot) {
        at(Arrays.asList(slots), slot);
    }

    private Object full(int slot) {
        if (slots[slot] == null) {
            throw new IllegalStateException();
        }
        return slots[slot];
    }

    private static <T> T at(List<T> list, int index) {
        if (index < 0 || index >= list.size()) {
            throw new IndexOutOfBoundsException();
        }
        return list.get(index);
    }
}
