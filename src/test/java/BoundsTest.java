/**
 * The numbers that each call takes: all that are inside the bounds that the document names, those just
 * outside of them, and the least and the greatest int. Each number is tried on a new object.
 */
public final class BoundsTest {
    interface Asked {
        long answer(MissRegisters x, int number);
    }

    private static final int LEAST = Integer.MIN_VALUE;
    private static final int MOST = Integer.MAX_VALUE;

    private final Check check = new Check();

    public static void main(String[] args) {
        BoundsTest test = new BoundsTest();
        test.addressesOfLoad();
        test.addressesOfStore();
        test.addressesOfAwait();
        test.addressesOfMemory();
        test.numbersOfTicks();
        test.ticketsOfDone();
        test.ticketsOfValue();
        test.delays();
        test.setsAndWays();
        test.lines();
        test.requests();
        test.numbersOfCount();
        test.valuesOfStore();
        test.check.end();
    }

    /** Promise 2, "there is no such address", and Terms, "ADDRESSES 0 .. 255". */
    private void addressesOfLoad() {
        refusesOutside("load", 0, 255, (x, a) -> x.load(a));
        for (int a = 0; a <= 255; a++) {
            MissRegisters x = new MissRegisters();
            int address = a;
            check.due("load(" + a + ")", 0, () -> x.load(address));
            check.due("the line of load(" + a + ")", a / 4, () -> x.request(0));
            check.due("the accesses done behind load(" + a + ")", 1, () -> x.tick(3));
            check.due("the value of load(" + a + ")", a, () -> x.value(0));
        }
    }

    /** Promise 3, "there is no such address"; no other word is changed by a store. */
    private void addressesOfStore() {
        refusesOutside("store", 0, 255, (x, a) -> x.store(a, 5));
        for (int a = 0; a <= 255; a++) {
            MissRegisters x = new MissRegisters();
            int address = a;
            check.due("store(" + a + ")", 0, () -> x.store(address, -1 - address));
            check.due("the line of store(" + a + ")", a / 4, () -> x.request(0));
            check.due("the accesses done behind store(" + a + ")", 1, () -> x.tick(3));
            check.due("the value of store(" + a + ")", -1 - a, () -> x.value(0));
            check.due("the lines dirty behind store(" + a + ")", 1, () -> x.flush());
            for (int b = 0; b <= 255; b++) {
                int other = b;
                check.due("memory(" + b + ") behind store(" + a + ")", b == a ? -1 - a : b, () -> x.memory(other));
            }
        }
    }

    /** Promise 4, "there is no such address". */
    private void addressesOfAwait() {
        refusesOutside("await", 0, 255, (x, a) -> x.await(a));
        answersInside("await", 0, 255, (x, a) -> x.await(a) - a, 0);
    }

    /** Promise 11, "there is no such address", and Terms, "each holds an int, at first its address". */
    private void addressesOfMemory() {
        refusesOutside("memory", 0, 255, (x, a) -> x.memory(a));
        answersInside("memory", 0, 255, (x, a) -> x.memory(a) - a, 0);
    }

    /** Promise 5, "n is not 1 .. 50". */
    private void numbersOfTicks() {
        refusesOutside("tick", 1, 50, (x, n) -> x.tick(n));
        answersInside("tick", 1, 50, (x, n) -> x.tick(n), 0);
        answersInside("the ticks counted behind tick", 1, 50, (x, n) -> {
            x.tick(n);
            return x.count(7) - n;
        }, 0);
    }

    /** Promise 6, "there is no such ticket", when none is given, when one is, and when several are. */
    private void ticketsOfDone() {
        refusesOutside("without tickets: done", 0, -1, (x, t) -> x.done(t) ? 1 : 0);
        refusesOutside("with one ticket: done", 0, 0, (x, t) -> withTickets(x, 1).done(t) ? 1 : 0);
        refusesOutside("with five tickets: done", 0, 4, (x, t) -> withTickets(x, 5).done(t) ? 1 : 0);
        answersInside("with five tickets: done", 0, 4, (x, t) -> withTickets(x, 5).done(t) ? 1 : 0, 1);
        answersInside("with two that wait: done", 0, 1, (x, t) -> withWaiting(x).done(t) ? 1 : 0, 0);
    }

    /** Promise 7, "there is no such ticket" and "it is not done". */
    private void ticketsOfValue() {
        refusesOutside("without tickets: value", 0, -1, (x, t) -> x.value(t));
        refusesOutside("with one ticket: value", 0, 0, (x, t) -> withTickets(x, 1).value(t));
        refusesOutside("with five tickets: value", 0, 4, (x, t) -> withTickets(x, 5).value(t));
        refusesOutside("with two that wait: value", 0, 1, (x, t) -> withWaiting(x).value(t));
        answersInside("with five tickets: value", 0, 4, (x, t) -> withTickets(x, 5).value(t) - 10 * t, 0);
        for (int t = 0; t <= 1; t++) {
            MissRegisters x = withWaiting(new MissRegisters());
            int ticket = t;
            check.state("with two that wait: value(" + t + ")", () -> x.value(ticket));
        }
    }

    /** Promise 8, "d is not 1 .. 9": a line comes in the last of so many ticks, and not in the one before. */
    private void delays() {
        refusesOutside("delay", 1, 9, (x, d) -> {
            x.delay(d);
            return 0;
        });
        for (int d = 1; d <= 9; d++) {
            MissRegisters x = new MissRegisters();
            int delay = d;
            check.due("load behind delay(" + d + ")", 0, () -> {
                x.delay(delay);
                return x.load(0);
            });
            check.due("left() behind delay(" + d + ")", d, () -> x.left());
            for (int passed = 1; passed <= d; passed++) {
                check.due("tick " + passed + " of delay(" + d + ")", passed == d ? 1 : 0, () -> x.tick(1));
            }
        }
    }

    /** Promise 12, "there is no such set or way": a wrong one of the two is enough. */
    private void setsAndWays() {
        for (int w = 0; w <= 1; w++) {
            int way = w;
            refusesOutside("with way " + w + ": way, by its set", 0, 3, (x, s) -> x.way(s, way));
            answersInside("with way " + w + ": way, by its set", 0, 3, (x, s) -> x.way(s, way), -1);
        }
        for (int s = 0; s <= 3; s++) {
            int set = s;
            refusesOutside("with set " + s + ": way, by its way", 0, 1, (x, w) -> x.way(set, w));
            answersInside("with set " + s + ": way, by its way", 0, 1, (x, w) -> x.way(set, w), -1);
        }
        for (int set : outside(0, 3)) {
            refusesOutside("with set " + set + ": way, by its way", 0, 1, (x, w) -> x.way(set, w));
        }
    }

    /** Promise 13, "there is no such line", and Terms, "line l (0 .. 63)". */
    private void lines() {
        refusesOutside("targets", 0, 63, (x, l) -> x.targets(l));
        answersInside("targets", 0, 63, (x, l) -> x.targets(l), -1);
        answersInside("behind a load of the line: targets", 0, 63, (x, l) -> {
            x.load(4 * l + 3);
            return x.targets(l);
        }, 1);
        answersInside("behind a load of the line before: targets", 1, 63, (x, l) -> {
            x.load(4 * l - 1);
            return x.targets(l);
        }, -1);
        answersInside("behind a load of the line after: targets", 0, 62, (x, l) -> {
            x.load(4 * l + 4);
            return x.targets(l);
        }, -1);
    }

    /** Promise 14, "-1 when there is none": every number is taken, whatever the length of the row. */
    private void requests() {
        int[] rowOfFive = {100, 8, 104, 12, 1};
        for (int length = 0; length <= 5; length++) {
            int wrapped = length;
            for (int k : outside(0, length - 1)) {
                check.due("in a row of " + length + ": request(" + k + ")", -1, () -> withRow(wrapped).request(k));
            }
            for (int i = 0; i < length; i++) {
                int k = i;
                check.due("in a row of " + length + ": request(" + k + ")", rowOfFive[5 - length + k],
                        () -> withRow(wrapped).request(k));
            }
        }
    }

    /** Promise 16, "any other number". */
    private void numbersOfCount() {
        refusesOutside("count", 0, 7, (x, which) -> x.count(which));
        answersInside("count", 0, 7, (x, which) -> x.count(which), 0);
    }

    /** Terms, "each holds an int": any value is stored, read, written back and flushed as it is. */
    private void valuesOfStore() {
        for (int value : new int[] {LEAST, LEAST + 1, -1, 0, 1, 255, 256, 65536, MOST - 1, MOST}) {
            MissRegisters x = new MissRegisters();
            check.due("store of " + value, 0, () -> x.store(0, value));
            check.due("a load behind it", 1, () -> x.load(0));
            check.due("the ticks of both", 2, () -> x.tick(3));
            check.due("the value that was put", value, () -> x.value(0));
            check.due("the value that was got", value, () -> x.value(1));
            check.due("await of another line", 16, () -> x.await(16));
            check.due("await of a line that drives it out", 32, () -> x.await(32));
            check.due("what was written back", value, () -> x.memory(0));
            check.due("what comes again", value, () -> x.await(0));
            check.due("store into the last word", 5, () -> x.store(255, value));
            check.due("the ticks of that", 1, () -> x.tick(3));
            check.due("flush", 1, () -> x.flush());
            check.due("what was flushed", value, () -> x.memory(255));
        }
    }

    private void refusesOutside(String name, int first, int last, Asked asked) {
        for (int number : outside(first, last)) {
            MissRegisters x = new MissRegisters();
            check.argument(name + "(" + number + ")", () -> asked.answer(x, number));
        }
    }

    private void answersInside(String name, int first, int last, Asked asked, long want) {
        for (int i = first; i <= last; i++) {
            MissRegisters x = new MissRegisters();
            int number = i;
            check.due(name + "(" + number + ")", want, () -> asked.answer(x, number));
        }
    }

    /** The numbers next to the bounds, the ends of int, and some that a mask or an overflow would bring inside. */
    private static int[] outside(int first, int last) {
        return new int[] {
            first - 1, last + 1, first - 2, last + 2, first - 256, last + 257, first - 512, last + 513,
            first - 65536, last + 65536, -(1 << 30), 1 << 30, (1 << 30) + 1,
            LEAST, LEAST + 1, LEAST + 2, MOST - 2, MOST - 1, MOST};
    }

    /** Tickets 0 .. n - 1, all done, ticket t with the value 10 * t. */
    private static MissRegisters withTickets(MissRegisters x, int n) {
        for (int t = 0; t < n; t++) {
            x.store(7, 10 * t);
            x.tick(3);
        }
        return x;
    }

    /** Tickets 0 and 1, of which none is done. */
    private static MissRegisters withWaiting(MissRegisters x) {
        x.load(9);
        x.store(10, 5);
        x.tick(2);
        return x;
    }

    /** A row of the last so many of five requests: two writes with the reads behind them, and one read. */
    private static MissRegisters withRow(int length) {
        MissRegisters x = new MissRegisters();
        x.store(0, 1);
        x.store(16, 2);
        x.tick(6);
        x.load(32);
        x.load(48);
        x.load(4);
        for (int i = 5; i > length; i--) {
            x.tick(3);
        }
        return x;
    }
}
