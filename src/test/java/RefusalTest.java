import java.util.ArrayList;
import java.util.List;

/**
 * Refused calls: 'nothing is changed then, but what is counted'. Of two objects that have come the same way,
 * one is asked what it must refuse; from then on both must answer alike, but for the stalls that are counted.
 */
public final class RefusalTest {
    private static final int TIMES = 3;

    private static final String NEW = "count 0 = 0";

    /** The row is empty, lines are clean and dirty, and fetching ahead is off. */
    private static final String IDLE = """
            store 0 1 = 0
            store 16 2 = 1
            load 5 = 2
            tick 9 = 3
            store 255 3 = 3
            await 21 = 21
            load 1 = 5
            delay 2 = void""";

    /** Two writes are in the row, both ways of set 0 await lines, line 8 has three targets, one register is free. */
    private static final String BUSY = """
            store 0 1 = 0
            store 16 2 = 1
            store 4 3 = 2
            tick 9 = 3
            store 20 4 = 3
            store 8 5 = 4
            tick 6 = 2
            ahead on = void
            delay 5 = void
            load 32 = 5
            load 48 = 6
            store 33 6 = 7
            load 34 = 8
            tick 1 = 0
            delay 7 = void
            request 0 = 100
            request 1 = 8
            request 2 = 104
            request 3 = 12
            request 4 = -1
            targets 8 = 3
            targets 12 = 1""";

    /** As before, and the last register is in use too. */
    private static final String FULL = BUSY + """

            load 12 = 9
            request 4 = 3
            request 5 = -1""";

    /** A read alone is in the row, with one tick to go; a dirty line waits to be flushed. */
    private static final String LAST_TICK = """
            store 0 1 = 0
            tick 3 = 1
            load 4 = 1
            tick 2 = 0
            left = 1""";

    /** A line without targets is alone in the row. */
    private static final String AHEAD = """
            ahead on = void
            store 0 1 = 0
            tick 3 = 1
            targets 1 = 0""";

    private final Check check = new Check();
    private final Script script = new Script(check);
    private final List<List<String>> probes = List.of(view(), words(), ways(), settings(), steps());

    public static void main(String[] args) {
        RefusalTest test = new RefusalTest();
        test.stalls();
        test.flushes();
        test.valuesThatAreNotDone();
        for (String rows : new String[] {NEW, IDLE, BUSY, FULL, LAST_TICK, AHEAD}) {
            test.arguments(rows);
        }
        test.check.end();
    }

    private void stalls() {
        stall("a register with three targets", "load 35", BUSY);
        stall("a register with three targets", "store 35 9", BUSY);
        stall("a register with three targets, and none free", "load 32", FULL);
        stall("no register free, an empty way", "load 24", FULL);
        stall("no register free, an empty way", "store 24 9", FULL);
        stall("no register free, a dirty line to go", "store 36 9", FULL);
        stall("both ways await lines", "load 64", BUSY);
        stall("both ways await lines", "store 64 9", BUSY);
        stall("both ways await lines, of a line that is in the row to be written", "load 0", BUSY);
        stall("a dirty line to go, and two writes in the row", "load 36", BUSY);
        stall("a dirty line to go, and two writes in the row", "store 36 9", BUSY);
    }

    private void flushes() {
        refused("a write and a read in the row", "flush", "state", 0, BUSY);
        refused("a read in the row", "flush", "state", 0, LAST_TICK);
        refused("a line in the row that is fetched ahead", "flush", "state", 0, AHEAD);
    }

    private void valuesThatAreNotDone() {
        refused("a load that waits", "value 5", "state", 0, BUSY);
        refused("a store that waits", "value 7", "state", 0, BUSY);
        refused("the last ticket", "value 9", "state", 0, FULL);
        refused("a load that is done in the next tick", "value 1", "state", 0, LAST_TICK);
    }

    private void arguments(String rows) {
        for (String number : new String[] {"-1", "256", "least", "most"}) {
            argument("load " + number, rows);
            argument("store " + number + " 77", rows);
            argument("await " + number, rows);
            argument("memory " + number, rows);
        }
        for (String number : new String[] {"-1", "0", "51", "least", "most"}) {
            argument("tick " + number, rows);
        }
        for (String number : new String[] {"-1", "10", "511", "512", "least", "most"}) {
            argument("done " + number, rows);
            argument("value " + number, rows);
        }
        for (String number : new String[] {"-1", "0", "10", "least", "most"}) {
            argument("delay " + number, rows);
        }
        for (String pair : new String[] {"-1 0", "4 0", "0 -1", "0 2", "3 2", "least 0", "most 1", "0 least", "3 most"}) {
            argument("way " + pair, rows);
        }
        for (String number : new String[] {"-1", "64", "least", "most"}) {
            argument("targets " + number, rows);
        }
        for (String number : new String[] {"-1", "8", "least", "most"}) {
            argument("count " + number, rows);
        }
    }

    private void stall(String why, String call, String rows) {
        refused(why, call, "state", TIMES, rows);
    }

    private void argument(String call, String rows) {
        refused("a wrong number", call, "argument", 0, rows);
    }

    private void refused(String why, String call, String thrown, int stalls, String rows) {
        for (List<String> probe : probes) {
            MissRegisters plain = script.play(why + ", without " + call, rows);
            MissRegisters tried = script.play(why + ", before " + call, rows);
            for (int i = 0; i < TIMES; i++) {
                check.same(why + ": " + call, Script.written(thrown), Script.outcome(tried, call));
            }
            for (String next : probe) {
                String want = Script.outcome(plain, next);
                boolean counts = next.equals("count 4");
                check.same(why + ": " + next + " behind " + call,
                        counts ? Integer.toString(Integer.parseInt(want) + stalls) : want, Script.outcome(tried, next));
            }
            int calls = rows.split("\n").length + TIMES + probe.size();
            check.due("the calls of a probe are not too many", true, calls <= Script.MOST_CALLS);
        }
    }

    /** All that can be seen at once. */
    private static List<String> view() {
        List<String> calls = new ArrayList<>();
        for (int i = 0; i < 8; i++) {
            calls.add("way " + i / 2 + " " + i % 2);
            calls.add("count " + i);
            calls.add("request " + i);
        }
        calls.add("left");
        for (int t = 0; t < 12; t++) {
            calls.add("done " + t);
            calls.add("value " + t);
        }
        addAll(calls, "targets ", 64);
        addAll(calls, "memory ", 256);
        return calls;
    }

    /** The words that ways hold and that come into them, and which lines have to be fetched for them. */
    private static List<String> words() {
        List<String> calls = new ArrayList<>(List.of("tick 50", "ahead off"));
        addAll(calls, "await ", 68);
        for (int a = 240; a < 256; a++) {
            calls.add("await " + a);
        }
        addAll(calls, "count ", 8);
        addAll(calls, "memory ", 256);
        return calls;
    }

    /** Which way of each set was used less lately. */
    private static List<String> ways() {
        List<String> calls = new ArrayList<>(List.of("tick 50", "ahead off"));
        for (int line = 48; line < 60; line++) {
            calls.add("await " + 4 * line);
            calls.add("way " + line % 4 + " 0");
            calls.add("way " + line % 4 + " 1");
        }
        calls.add("flush");
        addAll(calls, "count ", 8);
        addAll(calls, "memory ", 256);
        return calls;
    }

    /** The delay, whether fetching ahead is on, and the next ticket. */
    private static List<String> settings() {
        List<String> calls = new ArrayList<>(List.of("tick 50", "flush", "load 224", "left"));
        addAll(calls, "request ", 4);
        calls.addAll(List.of("targets 56", "targets 57", "count 0", "tick 1", "left", "tick 9", "left", "tick 9"));
        return calls;
    }

    /** How the row is served, tick by tick, and when each access is done. */
    private static List<String> steps() {
        List<String> calls = new ArrayList<>();
        for (int i = 0; i < 35; i++) {
            calls.addAll(List.of("left", "request 0", "request 1", "request 4", "tick 1"));
            calls.addAll(List.of("done 5", "done 6", "done 7", "done 9", "memory 0", "memory 16"));
        }
        calls.add("flush");
        for (int t = 0; t < 12; t++) {
            calls.add("value " + t);
        }
        addAll(calls, "count ", 8);
        return calls;
    }

    private static void addAll(List<String> calls, String name, int end) {
        for (int i = 0; i < end; i++) {
            calls.add(name + i);
        }
    }
}
