import java.util.ArrayList;
import java.util.HashMap;
import java.util.LinkedHashMap;
import java.util.List;
import java.util.Map;

/** The document's words again, by maps and lists and with no thought of room, to hold the class against. */
final class PlainModel {
    private static final class Access {
        final int address;
        final Integer stored;
        Integer got = null;

        Access(int address, Integer stored) {
            this.address = address;
            this.stored = stored;
        }
    }

    /** A write has the words of its line, a read has none. */
    private static final class Request {
        final int line;
        final List<Integer> written;

        Request(int line, List<Integer> written) {
            this.line = line;
            this.written = written;
        }
    }

    private final Map<Integer, Integer> memory = new HashMap<>();
    private final int[][] lineOf = {{-1, -1}, {-1, -1}, {-1, -1}, {-1, -1}};
    private final Map<Integer, List<Integer>> held = new HashMap<>();
    private final Map<Integer, Boolean> dirty = new HashMap<>();
    private final Map<Integer, List<Access>> registers = new LinkedHashMap<>();
    private final List<Integer> leastLately = new ArrayList<>();
    private final List<Request> row = new ArrayList<>();
    private final List<Access> accesses = new ArrayList<>();
    private final int[] counts = new int[8];
    private int delay = 3;
    private int left = 0;
    private boolean ahead = false;

    PlainModel() {
        for (int i = 0; i < 256; i++) {
            memory.put(i, i);
        }
    }

    int load(int address) {
        return access(address, null);
    }

    int store(int address, int value) {
        return access(address, value);
    }

    private int access(int address, Integer stored) {
        requireArgument(address >= 0 && address <= 255);
        Access access = new Access(address, stored);
        if (!issue(access)) {
            throw new IllegalStateException();
        }
        return accesses.size() - 1;
    }

    int await(int address) {
        requireArgument(address >= 0 && address <= 255);
        Access access = new Access(address, null);
        while (!issue(access)) {
            oneTick();
        }
        while (access.got == null) {
            oneTick();
        }
        return access.got;
    }

    int tick(int n) {
        requireArgument(n >= 1 && n <= 50);
        int before = doneAccesses();
        for (int i = 0; i < n; i++) {
            oneTick();
        }
        return doneAccesses() - before;
    }

    boolean done(int ticket) {
        requireArgument(ticket >= 0 && ticket < accesses.size());
        return accesses.get(ticket).got != null;
    }

    int value(int ticket) {
        if (!done(ticket)) {
            throw new IllegalStateException();
        }
        return accesses.get(ticket).got;
    }

    void delay(int d) {
        requireArgument(d >= 1 && d <= 9);
        delay = d;
    }

    void ahead(boolean on) {
        ahead = on;
    }

    int flush() {
        if (!row.isEmpty()) {
            throw new IllegalStateException();
        }
        int flushed = 0;
        for (int line : held.keySet()) {
            if (dirty.get(line)) {
                putIntoMemory(line, held.get(line));
                dirty.put(line, false);
                flushed++;
            }
        }
        return flushed;
    }

    int memory(int address) {
        requireArgument(address >= 0 && address <= 255);
        return memory.get(address);
    }

    int way(int set, int way) {
        requireArgument(set >= 0 && set <= 3 && way >= 0 && way <= 1);
        int line = lineOf[set][way];
        if (line == -1) {
            return -1;
        }
        return line + (registers.containsKey(line) ? 200 : dirty.get(line) ? 100 : 0);
    }

    int targets(int line) {
        requireArgument(line >= 0 && line <= 63);
        return registers.containsKey(line) ? registers.get(line).size() : -1;
    }

    int request(int k) {
        if (k < 0 || k >= row.size()) {
            return -1;
        }
        return row.get(k).line + (row.get(k).written != null ? 100 : 0);
    }

    int left() {
        return row.isEmpty() ? 0 : left;
    }

    int count(int which) {
        requireArgument(which >= 0 && which <= 7);
        return which == 0 ? accesses.size() : counts[which];
    }

    private static void requireArgument(boolean right) {
        if (!right) {
            throw new IllegalArgumentException();
        }
    }

    private int doneAccesses() {
        int sum = 0;
        for (Access access : accesses) {
            sum += access.got != null ? 1 : 0;
        }
        return sum;
    }

    private boolean issue(Access access) {
        int line = access.address / 4;
        if (held.containsKey(line)) {
            counts[1]++;
            use(line);
            finish(access);
        } else if (registers.containsKey(line)) {
            if (registers.get(line).size() == 3) {
                return stall();
            }
            counts[2]++;
            use(line);
            registers.get(line).add(access);
        } else {
            if (registers.size() == 3) {
                return stall();
            }
            int way = chosen(line);
            if (way == -1) {
                return stall();
            }
            int old = lineOf[line % 4][way];
            boolean oldIsDirty = old != -1 && dirty.get(old);
            if (oldIsDirty && row.stream().filter(r -> r.written != null).count() == 2) {
                return stall();
            }
            counts[3]++;
            if (oldIsDirty) {
                counts[6]++;
                put(new Request(old, List.copyOf(held.get(old))));
            }
            fetch(line, way);
            registers.get(line).add(access);
            if (ahead) {
                fetchAhead(line + 1);
            }
        }
        accesses.add(access);
        return true;
    }

    private boolean stall() {
        counts[4]++;
        return false;
    }

    private void fetchAhead(int line) {
        if (line > 63 || held.containsKey(line) || registers.containsKey(line) || registers.size() == 3) {
            return;
        }
        int way = chosen(line);
        if (way == -1 || lineOf[line % 4][way] != -1 && dirty.get(lineOf[line % 4][way])) {
            return;
        }
        counts[5]++;
        fetch(line, way);
    }

    private void fetch(int line, int way) {
        int old = lineOf[line % 4][way];
        held.remove(old);
        dirty.remove(old);
        leastLately.remove((Integer) old);
        lineOf[line % 4][way] = line;
        use(line);
        registers.put(line, new ArrayList<>());
        put(new Request(line, null));
    }

    private int chosen(int line) {
        int[] set = lineOf[line % 4];
        for (int way = 0; way < 2; way++) {
            if (set[way] == -1) {
                return way;
            }
        }
        for (int used : leastLately) {
            if (held.containsKey(used) && (used == set[0] || used == set[1])) {
                return used == set[0] ? 0 : 1;
            }
        }
        return -1;
    }

    private void use(int line) {
        leastLately.remove((Integer) line);
        leastLately.add(line);
    }

    private void put(Request request) {
        row.add(request);
        if (row.size() == 1) {
            left = delay;
        }
    }

    private void finish(Access access) {
        int line = access.address / 4;
        if (access.stored != null) {
            held.get(line).set(access.address % 4, access.stored);
            dirty.put(line, true);
        }
        access.got = held.get(line).get(access.address % 4);
    }

    private void oneTick() {
        counts[7]++;
        if (row.isEmpty() || --left > 0) {
            return;
        }
        Request over = row.remove(0);
        left = delay;
        if (over.written != null) {
            putIntoMemory(over.line, over.written);
            return;
        }
        List<Integer> words = new ArrayList<>();
        for (int i = 0; i < 4; i++) {
            words.add(memory.get(4 * over.line + i));
        }
        held.put(over.line, words);
        dirty.put(over.line, false);
        for (Access access : registers.remove(over.line)) {
            finish(access);
        }
    }

    private void putIntoMemory(int line, List<Integer> words) {
        for (int i = 0; i < 4; i++) {
            memory.put(4 * line + i, words.get(i));
        }
    }
}
