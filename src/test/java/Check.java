/** Compares answers with those that are due, prints each that differs, and ends the run with 1 if one did. */
final class Check {
    interface Call {
        long answer();
    }

    private int asked = 0;
    private int wrong = 0;

    void due(String call, long want, Call called) {
        same(call, Long.toString(want), outcome(called));
    }

    void due(String call, boolean want, boolean got) {
        same(call, Boolean.toString(want), Boolean.toString(got));
    }

    void argument(String call, Call called) {
        same(call, "throws.IllegalArgumentException", outcome(called));
    }

    void state(String call, Call called) {
        same(call, "throws.IllegalStateException", outcome(called));
    }

    void same(String call, String want, String got) {
        asked++;
        if (!want.equals(got)) {
            wrong++;
            System.out.println(call + " answered " + got + ", due is " + want);
        }
    }

    /** The answer as a text; an exception is told by its exact class. */
    static String outcome(Call called) {
        try {
            return Long.toString(called.answer());
        } catch (RuntimeException e) {
            return "throws." + e.getClass().getSimpleName();
        }
    }

    void end() {
        System.out.println(asked + " answers, " + wrong + " not as due");
        if (wrong != 0) {
            System.exit(1);
        }
    }
}
