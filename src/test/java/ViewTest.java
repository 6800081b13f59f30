/** Promises 11 to 16: memory, way, targets, request, left and count. */
public final class ViewTest {
    public static void main(String[] args) {
        Check check = new Check();
        Script script = new Script(check);
        memories(script);
        ways(script);
        targets(script);
        requests(script);
        lefts(script);
        counts(script);
        check.end();
    }

    private static void memories(Script script) {
        script.play("memory shows what was written back, not what the cache has", """
                memory 0 = 0
                memory 255 = 255
                memory -1 = argument
                memory 256 = argument
                memory least = argument
                memory most = argument
                store 255 1 = 0
                tick 3 = 1
                memory 255 = 255
                flush = 1
                memory 255 = 1
                memory 254 = 254""");
    }

    private static void ways(Script script) {
        script.play("way shows an empty, an awaited, a clean and a dirty line", """
                way 3 1 = -1
                load 252 = 0
                way 3 0 = 263
                way 3 1 = -1
                tick 3 = 1
                way 3 0 = 63
                store 253 5 = 1
                way 3 0 = 163
                load 12 = 2
                way 3 1 = 203
                flush = state
                tick 3 = 1
                way 3 1 = 3""");
        script.play("way of a wrong set or way", """
                way -1 0 = argument
                way 4 0 = argument
                way 0 -1 = argument
                way 0 2 = argument
                way 3 2 = argument
                way least 0 = argument
                way 0 most = argument
                way 1 least = argument
                way most most = argument
                way 1 -1 = argument
                way 0 3 = argument
                way 3 1 = -1""");
        script.play("a line's set is the line modulo 4", """
                await 0 = 0
                await 20 = 20
                await 40 = 40
                await 60 = 60
                way 0 0 = 0
                way 1 0 = 5
                way 2 0 = 10
                way 3 0 = 15""");
    }

    private static void targets(Script script) {
        script.play("targets of lines that are awaited, and of others", """
                targets 0 = -1
                targets 63 = -1
                targets -1 = argument
                targets 64 = argument
                targets least = argument
                targets most = argument
                load 252 = 0
                targets 63 = 1
                targets 59 = -1
                store 253 1 = 1
                targets 63 = 2
                load 0 = 2
                targets 0 = 1
                tick 3 = 2
                targets 63 = -1
                targets 0 = 1
                tick 3 = 1
                targets 0 = -1""");
        script.play("a register that is used again starts without the targets of the line before", """
                load 0 = 0
                load 1 = 1
                load 2 = 2
                tick 3 = 3
                load 4 = 3
                targets 1 = 1
                ahead on = void
                tick 3 = 1
                load 8 = 4
                targets 3 = 0
                tick 6 = 1""");
    }

    private static void requests(Script script) {
        script.play("request shows the row in its order", """
                request 0 = -1
                load 8 = 0
                load 4 = 1
                load 12 = 2
                request 0 = 2
                request 1 = 1
                request 2 = 3
                request 3 = -1
                request -1 = -1
                request least = -1
                request most = -1
                tick 2 = 0
                request 0 = 2
                tick 1 = 1
                request 0 = 1
                request 1 = 3
                request 2 = -1
                tick 6 = 2
                request 0 = -1""");
        script.play("request marks a write, of the last line too", """
                store 252 1 = 0
                store 236 2 = 1
                tick 6 = 2
                load 0 = 2
                load 220 = 3
                request 0 = 0
                request 1 = 163
                request 2 = 55
                request 3 = -1""");
    }

    private static void lefts(Script script) {
        script.play("left counts down, for the first request alone", """
                left = 0
                tick 1 = 0
                left = 0
                load 0 = 0
                left = 3
                load 4 = 1
                left = 3
                tick 1 = 0
                left = 2
                tick 1 = 0
                left = 1
                tick 1 = 1
                left = 3
                tick 2 = 0
                load 8 = 2
                left = 1
                tick 1 = 1
                left = 3
                tick 3 = 1
                left = 0
                tick 50 = 0
                left = 0""");
    }

    private static void counts(Script script) {
        script.play("count tells each kind apart", """
                store 0 1 = 0
                store 1 2 = 1
                store 2 3 = 2
                store 3 4 = state
                tick 4 = 3
                load 0 = 3
                load 3 = 4
                await 16 = 16
                ahead on = void
                load 32 = 6
                load 0 = 7
                load 12 = state
                count 0 = 8
                count 1 = 2
                count 2 = 2
                count 3 = 4
                count 4 = 2
                count 5 = 1
                count 6 = 1
                count 7 = 7""");
        script.play("count of a wrong number", """
                count -1 = argument
                count 8 = argument
                count least = argument
                count most = argument""");
        script.play("a flush is not counted, nor are calls that are wrong", """
                store 0 1 = 0
                tick 3 = 1
                flush = 1
                load 4 = 1
                flush = state
                load 999 = argument
                tick 0 = argument
                count 0 = 2
                count 3 = 2
                count 4 = 0
                count 6 = 0
                count 7 = 3""");
    }
}
