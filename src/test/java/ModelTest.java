import java.util.Random;

/**
 * Runs of calls, drawn from fixed seeds, whose every answer must be that of PlainModel. An object has 512 calls:
 * one run in four has as many steps, the others are shorter, and their whole state is compared at their end.
 */
public final class ModelTest {
    private static final int RUNS = 12000;
    // compareState makes 345 calls, and a step is one call.
    private static final int MOST_STEPS_BEFORE_STATE = 512 - 345;
    // Every kind of count must have come often over all runs, or the runs test too little.
    private static final int OFTEN = 5000;

    private final Check check = new Check();
    private final long[] reached = new long[8];

    public static void main(String[] args) {
        ModelTest test = new ModelTest();
        for (int run = 0; run < RUNS; run++) {
            test.run(run);
        }
        for (int which = 0; which < 8; which++) {
            test.check.due("count(" + which + ") is reached often", true, test.reached[which] > OFTEN);
        }
        test.check.end();
    }

    private void run(int seed) {
        Random random = new Random(seed);
        MissRegisters x = new MissRegisters();
        PlainModel model = new PlainModel();
        // Few lines make hits and joins, more of them misses; few ticks make stalls.
        int lines = 4 << random.nextInt(5);
        int stretch = 1 + random.nextInt(12);
        boolean isLong = seed % 4 == 0;
        int steps = isLong ? 512 : 1 + random.nextInt(MOST_STEPS_BEFORE_STATE);
        for (int i = 0; i < steps; i++) {
            step(seed + "." + i + ": ", random, lines, stretch, x, model);
        }
        if (!isLong) {
            compareState(seed + ": ", x, model);
        }
        for (int which = 0; which < 8; which++) {
            reached[which] += model.count(which);
        }
    }

    private void step(String at, Random random, int lines, int stretch, MissRegisters x, PlainModel m) {
        int address = random.nextInt(40) == 0 ? random.nextInt(300) - 20 : random.nextInt(lines) * 4 + random.nextInt(4);
        int small = random.nextInt(14) - 2;
        int kind = random.nextInt(100);
        if (kind < 25) {
            both(at + "load(" + address + ")", () -> x.load(address), () -> m.load(address));
        } else if (kind < 52) {
            int value = random.nextInt();
            both(at + "store(" + address + ")", () -> x.store(address, value), () -> m.store(address, value));
        } else if (kind < 55) {
            both(at + "await(" + address + ")", () -> x.await(address), () -> m.await(address));
        } else if (kind < 72) {
            int n = random.nextInt(30) == 0 ? random.nextInt(60) - 4 : 1 + random.nextInt(stretch);
            both(at + "tick(" + n + ")", () -> x.tick(n), () -> m.tick(n));
        } else if (kind < 80) {
            int ticket = random.nextInt(m.count(0) + 2) - 1;
            if (kind < 75) {
                both(at + "done(" + ticket + ")", () -> x.done(ticket) ? 1 : 0, () -> m.done(ticket) ? 1 : 0);
            } else {
                both(at + "value(" + ticket + ")", () -> x.value(ticket), () -> m.value(ticket));
            }
        } else if (kind < 82) {
            both(at + "delay(" + small + ")", () -> { x.delay(small); return 0; }, () -> { m.delay(small); return 0; });
        } else if (kind < 84) {
            boolean on = random.nextInt(3) > 0;
            x.ahead(on);
            m.ahead(on);
        } else if (kind < 87) {
            both(at + "flush()", () -> x.flush(), () -> m.flush());
        } else {
            look(at, random, address, small, x, m);
        }
    }

    private void look(String at, Random random, int address, int small, MissRegisters x, PlainModel m) {
        int way = random.nextInt(4) - 1;
        int line = Math.floorDiv(address, 4);
        switch (random.nextInt(6)) {
            case 0:
                both(at + "memory(" + address + ")", () -> x.memory(address), () -> m.memory(address));
                break;
            case 1:
                both(at + "way(" + small + ", " + way + ")", () -> x.way(small, way), () -> m.way(small, way));
                break;
            case 2:
                both(at + "targets(" + line + ")", () -> x.targets(line), () -> m.targets(line));
                break;
            case 3:
                both(at + "request(" + small + ")", () -> x.request(small), () -> m.request(small));
                break;
            case 4:
                both(at + "left()", () -> x.left(), () -> m.left());
                break;
            default:
                both(at + "count(" + small + ")", () -> x.count(small), () -> m.count(small));
                break;
        }
    }

    private void compareState(String at, MissRegisters x, PlainModel m) {
        for (int i = 0; i < 8; i++) {
            int k = i;
            both(at + "way of " + k, () -> x.way(k / 2, k % 2), () -> m.way(k / 2, k % 2));
            both(at + "request(" + k + ")", () -> x.request(k), () -> m.request(k));
            both(at + "count(" + k + ")", () -> x.count(k), () -> m.count(k));
        }
        for (int i = 0; i < 64; i++) {
            int k = i;
            both(at + "targets(" + k + ")", () -> x.targets(k), () -> m.targets(k));
        }
        for (int i = 0; i < 256; i++) {
            int k = i;
            both(at + "memory(" + k + ")", () -> x.memory(k), () -> m.memory(k));
        }
        both(at + "left()", () -> x.left(), () -> m.left());
    }

    private void both(String call, Check.Call ofClass, Check.Call ofModel) {
        check.same(call, Check.outcome(ofModel), Check.outcome(ofClass));
    }
}
