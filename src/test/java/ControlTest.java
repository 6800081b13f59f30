/** Promises 6 to 10: done, value, delay, ahead and flush. */
public final class ControlTest {
    public static void main(String[] args) {
        Check check = new Check();
        Script script = new Script(check);
        doneAndValue(script);
        delays(script);
        fetchesAhead(script);
        doesNotFetchAhead(script);
        flushes(script);
        check.end();
    }

    private static void doneAndValue(Script script) {
        script.play("done and value of loads and stores", """
                done 0 = argument
                value 0 = argument
                load 40 = 0
                store 41 6 = 1
                done 0 = false
                done 1 = false
                value 0 = state
                value 1 = state
                tick 3 = 2
                done 0 = true
                done 1 = true
                value 0 = 40
                value 1 = 6
                done 2 = argument
                value 2 = argument
                done -1 = argument
                value -1 = argument
                done least = argument
                value most = argument
                done 511 = argument
                done 512 = argument
                value 511 = argument
                value 512 = argument""");
        script.play("what a load got stays, whatever is stored later", """
                await 40 = 40
                store 40 9 = 1
                value 0 = 40
                load 40 = 2
                value 2 = 9""");
        script.play("an access that stalled has no ticket", """
                load 0 = 0
                load 1 = 1
                load 2 = 2
                load 3 = state
                done 3 = argument
                value 3 = argument""");
    }

    private static void delays(Script script) {
        script.play("a delay is for requests that become the first one from now on", """
                load 0 = 0
                load 4 = 1
                left = 3
                delay 5 = void
                left = 3
                tick 3 = 1
                left = 5
                delay 1 = void
                left = 5
                tick 4 = 0
                tick 1 = 1
                load 8 = 2
                left = 1
                tick 1 = 1""");
        script.play("the delay counts that is set when the request becomes the first one", """
                load 0 = 0
                delay 9 = void
                load 4 = 1
                delay 2 = void
                tick 3 = 1
                left = 2
                tick 2 = 1
                left = 0""");
        script.play("a delay that is wrong changes nothing", """
                delay 0 = argument
                delay 10 = argument
                delay -1 = argument
                delay least = argument
                delay most = argument
                load 0 = 0
                left = 3
                delay 9 = void
                tick 3 = 1
                load 4 = 1
                left = 9""");
    }

    private static void fetchesAhead(Script script) {
        script.play("ahead is off at first", """
                load 0 = 0
                request 0 = 0
                request 1 = -1
                count 5 = 0
                ahead on = void
                request 1 = -1
                load 16 = 1
                request 1 = 4
                request 2 = 5
                count 5 = 1""");
        script.play("the next line is fetched ahead, without targets", """
                ahead on = void
                load 2 = 0
                request 0 = 0
                request 1 = 1
                targets 0 = 1
                targets 1 = 0
                way 1 0 = 201
                count 0 = 1
                count 3 = 1
                count 5 = 1
                tick 3 = 1
                tick 3 = 0
                way 1 0 = 1
                load 7 = 1
                value 1 = 7
                count 1 = 1
                count 5 = 1""");
        script.play("a line that is fetched ahead takes three targets; joins and hits fetch nothing", """
                ahead on = void
                load 3 = 0
                load 4 = 1
                store 5 50 = 2
                load 5 = 3
                load 6 = state
                targets 1 = 3
                count 2 = 3
                count 5 = 1
                tick 6 = 4
                value 3 = 50
                load 0 = 4
                request 0 = -1""");
        script.play("ahead can be switched off again", """
                ahead on = void
                ahead off = void
                load 0 = 0
                request 1 = -1
                targets 1 = -1""");
        script.play("a clean line goes for a line that is fetched ahead, and the way is used", """
                await 4 = 4
                await 20 = 20
                ahead on = void
                load 32 = 2
                way 1 0 = 209
                way 1 1 = 5
                tick 6 = 1
                ahead off = void
                load 52 = 3
                way 1 0 = 9
                way 1 1 = 213""");
        script.play("a write, the line and the next line stand in the row in this order", """
                store 0 5 = 0
                store 16 6 = 1
                tick 6 = 2
                ahead on = void
                load 32 = 2
                request 0 = 100
                request 1 = 8
                request 2 = 9
                request 3 = -1""");
    }

    private static void doesNotFetchAhead(Script script) {
        script.play("no line comes behind the last one", """
                ahead on = void
                load 252 = 0
                request 0 = 63
                request 1 = -1
                way 0 0 = -1
                count 5 = 0
                await 248 = 248
                count 5 = 0""");
        script.play("line 63 is fetched ahead behind line 62", """
                ahead on = void
                load 248 = 0
                request 1 = 63""");
        script.play("a line that is held or awaited is not wanted", """
                await 4 = 4
                load 12 = 1
                ahead on = void
                load 0 = 2
                request 1 = 0
                request 2 = -1
                load 8 = 3
                request 2 = 2
                request 3 = -1
                count 5 = 0""");
        script.play("without a free register nothing is fetched ahead, and nothing stalls", """
                load 0 = 0
                load 16 = 1
                ahead on = void
                load 8 = 2
                request 2 = 2
                request 3 = -1
                count 4 = 0
                count 5 = 0""");
        script.play("a dirty line does not go for a line that is fetched ahead, nor does the other way's", """
                store 4 5 = 0
                tick 3 = 1
                await 20 = 20
                ahead on = void
                load 32 = 2
                request 0 = 8
                request 1 = -1
                way 1 0 = 101
                way 1 1 = 5
                count 5 = 0
                count 6 = 0""");
        script.play("a dirty line that was used more lately does not keep the next line away", """
                await 20 = 20
                store 4 5 = 1
                tick 3 = 1
                ahead on = void
                load 32 = 2
                way 1 0 = 209
                way 1 1 = 101""");
        script.play("with both ways of its set awaiting, the next line is not fetched ahead", """
                await 0 = 0
                await 16 = 16
                load 4 = 2
                load 20 = 3
                ahead on = void
                load 36 = state
                load 32 = 4
                request 2 = 8
                request 3 = -1
                count 5 = 0""");
        script.play("a miss that stalls fetches nothing ahead", """
                ahead on = void
                load 0 = 0
                load 8 = 1
                targets 3 = -1
                load 16 = state
                targets 5 = -1
                count 5 = 1""");
    }

    private static void flushes(Script script) {
        script.play("flush writes every dirty line, at once", """
                store 0 10 = 0
                store 16 11 = 1
                store 7 12 = 2
                tick 9 = 3
                await 8 = 8
                flush = 3
                memory 0 = 10
                memory 16 = 11
                memory 7 = 12
                memory 6 = 6
                way 0 0 = 0
                way 0 1 = 4
                way 1 0 = 1
                count 6 = 0
                count 7 = 12
                flush = 0
                store 7 13 = 4
                flush = 1
                memory 7 = 13""");
        script.play("flush waits for an empty row", """
                store 0 10 = 0
                tick 3 = 1
                load 4 = 1
                flush = state
                way 0 0 = 100
                memory 0 = 0
                tick 2 = 0
                flush = state
                tick 1 = 1
                flush = 1
                memory 0 = 10""");
        script.play("a line that was flushed is not written again, and flush uses no way", """
                store 0 10 = 0
                tick 3 = 1
                await 16 = 16
                flush = 1
                load 32 = 2
                request 0 = 8
                way 0 0 = 208
                count 6 = 0
                tick 3 = 1
                await 0 = 10""");
    }
}
