/**
 * Plays runs of calls on new objects. A row of a run is "call arguments = answer"; the answer of done is
 * true or false, that of delay and ahead is void, and argument and state stand for the exceptions.
 */
final class Script {
    // Nothing is promised of an object behind its 512th call, so no test may ask for more.
    static final int MOST_CALLS = 512;

    private final Check check;

    Script(Check check) {
        this.check = check;
    }

    /** The object on which the rows have been played. */
    MissRegisters play(String title, String rows) {
        MissRegisters x = new MissRegisters();
        int number = 0;
        for (String row : rows.split("\n")) {
            number++;
            String[] sides = row.trim().split(" = ");
            check.same(title + ", row " + number + ", " + sides[0], written(sides[1]), outcome(x, sides[0]));
        }
        check.due(title + " keeps to the calls that an object has", true, number <= MOST_CALLS);
        return x;
    }

    static String written(String answer) {
        switch (answer) {
            case "argument":
                return "throws.IllegalArgumentException";
            case "state":
                return "throws.IllegalStateException";
            default:
                return answer;
        }
    }

    static String outcome(MissRegisters x, String call) {
        String[] parts = call.split(" ");
        try {
            return answer(x, parts[0], parts);
        } catch (RuntimeException e) {
            return "throws." + e.getClass().getSimpleName();
        }
    }

    private static String answer(MissRegisters x, String name, String[] parts) {
        switch (name) {
            case "load":
                return Integer.toString(x.load(number(parts, 1)));
            case "store":
                return Integer.toString(x.store(number(parts, 1), number(parts, 2)));
            case "await":
                return Integer.toString(x.await(number(parts, 1)));
            case "tick":
                return Integer.toString(x.tick(number(parts, 1)));
            case "done":
                return Boolean.toString(x.done(number(parts, 1)));
            case "value":
                return Integer.toString(x.value(number(parts, 1)));
            case "delay":
                x.delay(number(parts, 1));
                return "void";
            case "ahead":
                x.ahead(parts[1].equals("on"));
                return "void";
            case "flush":
                return Integer.toString(x.flush());
            case "memory":
                return Integer.toString(x.memory(number(parts, 1)));
            case "way":
                return Integer.toString(x.way(number(parts, 1), number(parts, 2)));
            case "targets":
                return Integer.toString(x.targets(number(parts, 1)));
            case "request":
                return Integer.toString(x.request(number(parts, 1)));
            case "left":
                return Integer.toString(x.left());
            case "count":
                return Integer.toString(x.count(number(parts, 1)));
            default:
                return "no such call";
        }
    }

    private static int number(String[] parts, int k) {
        switch (parts[k]) {
            case "least":
                return Integer.MIN_VALUE;
            case "most":
                return Integer.MAX_VALUE;
            default:
                return Integer.parseInt(parts[k]);
        }
    }
}
