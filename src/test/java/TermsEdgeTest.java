/**
 * The edges that the section 'Terms' names, sentence by sentence, up to how an access is issued: what is
 * least and last, what is empty, what is full. Each title says the sentence; IssueEdgeTest goes on from there.
 */
public final class TermsEdgeTest {
    public static void main(String[] args) {
        Check check = new Check();
        Script script = new Script(check);
        words(script);
        lines(script);
        sets(script);
        waysOfTheCache(script);
        kindsOfWays(script);
        ticksAreCounted(script);
        threeRegisters(script);
        threeTargets(script);
        targetsInTheirOrder(script);
        twoWrites(script);
        delayWhenFirst(script);
        nextBecomesFirst(script);
        tickets(script);
        check.end();
    }

    private static void words(Script script) {
        script.play("'ADDRESSES 0 .. 255; each holds an int, at first its address'", """
                memory 0 = 0
                memory 255 = 255
                memory 256 = argument
                memory -1 = argument
                await 0 = 0
                await 255 = 255
                await 256 = argument
                await -1 = argument""");
    }

    private static void lines(Script script) {
        script.play("'4 * l .. 4 * l + 3 those of line l': the first lines", """
                load 3 = 0
                targets 0 = 1
                targets 1 = -1
                load 4 = 1
                targets 0 = 1
                targets 1 = 1
                load 7 = 2
                targets 1 = 2
                load 8 = 3
                targets 1 = 2
                targets 2 = 1
                load 0 = 4
                targets 0 = 2""");
        script.play("'4 * l .. 4 * l + 3 those of line l': the last lines", """
                load 251 = 0
                targets 62 = 1
                targets 63 = -1
                load 252 = 1
                targets 62 = 1
                targets 63 = 1
                load 255 = 2
                targets 63 = 2
                targets 64 = argument""");
        script.play("'four words one behind the other': the words next to a line stay", """
                store 4 50 = 0
                store 7 51 = 1
                tick 3 = 2
                flush = 1
                memory 3 = 3
                memory 4 = 50
                memory 5 = 5
                memory 6 = 6
                memory 7 = 51
                memory 8 = 8""");
    }

    private static void sets(Script script) {
        script.play("'its SET is l modulo 4': 3 is the last one, and then comes 0 again", """
                await 0 = 0
                way 0 0 = 0
                await 4 = 4
                way 1 0 = 1
                await 8 = 8
                way 2 0 = 2
                await 12 = 12
                way 3 0 = 3
                await 16 = 16
                way 0 1 = 4
                await 252 = 252
                way 3 1 = 63
                way 1 1 = -1
                way 2 1 = -1""");
        script.play("'its SET is l modulo 4': the last four lines", """
                await 240 = 240
                way 0 0 = 60
                await 244 = 244
                way 1 0 = 61
                await 248 = 248
                way 2 0 = 62
                await 252 = 252
                way 3 0 = 63""");
    }

    private static void waysOfTheCache(Script script) {
        script.play("'four sets of WAYS 0 and 1': eight lines are held, a ninth drives one out", """
                await 0 = 0
                await 4 = 4
                await 8 = 8
                await 12 = 12
                await 16 = 16
                await 20 = 20
                await 24 = 24
                await 28 = 28
                count 3 = 8
                load 0 = 8
                load 4 = 9
                load 8 = 10
                load 12 = 11
                load 16 = 12
                load 20 = 13
                load 24 = 14
                load 28 = 15
                count 1 = 8
                count 3 = 8
                await 44 = 44
                count 3 = 9
                way 0 0 = 0
                way 0 1 = 4
                way 1 0 = 1
                way 1 1 = 5
                way 2 0 = 2
                way 2 1 = 6
                way 3 0 = 11
                way 3 1 = 7
                way 3 2 = argument
                way 4 0 = argument""");
    }

    private static void kindsOfWays(Script script) {
        script.play("'a way is EMPTY (at first)': only until a line is awaited, and never again", """
                way 0 0 = -1
                way 0 1 = -1
                load 0 = 0
                way 0 0 = 200
                way 0 1 = -1
                tick 3 = 1
                way 0 0 = 0
                way 0 1 = -1
                store 0 1 = 1
                way 0 0 = 100
                flush = 1
                way 0 0 = 0
                way 0 1 = -1
                load 16 = 2
                load 32 = 3
                way 0 0 = 208
                way 0 1 = 204""");
        script.play("'CLEAN or DIRTY': a line is dirty from its first store until it is flushed or goes", """
                await 0 = 0
                way 0 0 = 0
                load 1 = 1
                way 0 0 = 0
                store 1 9 = 2
                way 0 0 = 100
                load 1 = 3
                way 0 0 = 100
                store 1 8 = 4
                way 0 0 = 100
                flush = 1
                way 0 0 = 0""");
    }

    private static void ticksAreCounted(Script script) {
        script.play("'TICKS are counted, at first 0'", """
                count 7 = 0
                tick 1 = 0
                count 7 = 1
                tick 50 = 0
                count 7 = 51
                load 0 = 0
                count 7 = 51
                tick 50 = 1
                count 7 = 101
                tick 51 = argument
                count 7 = 101""");
    }

    private static void threeRegisters(Script script) {
        script.play("'three REGISTERS': the third is there, a fourth is not, until a line has come", """
                load 0 = 0
                load 4 = 1
                load 8 = 2
                count 4 = 0
                load 12 = state
                tick 2 = 0
                load 12 = state
                tick 1 = 1
                load 12 = 3
                load 28 = state
                tick 3 = 1
                load 28 = 4
                count 3 = 5
                count 4 = 3""");
        script.play("'three REGISTERS': all of them are free again when the row is empty", """
                load 0 = 0
                load 4 = 1
                load 8 = 2
                tick 9 = 3
                load 12 = 3
                load 16 = 4
                load 20 = 5
                load 24 = state
                tick 9 = 3
                load 24 = 6
                load 28 = 7
                load 32 = 8
                load 36 = state""");
        script.play("'three REGISTERS': a line that is fetched ahead has one too", """
                ahead on = void
                load 0 = 0
                load 8 = 1
                request 2 = 2
                request 3 = -1
                load 16 = state
                tick 3 = 1
                load 16 = 2
                request 2 = 4
                request 3 = -1
                load 28 = state
                count 5 = 1
                count 4 = 2""");
    }

    private static void threeTargets(Script script) {
        script.play("'at most three TARGETS': a fourth load stalls, with registers free", """
                load 0 = 0
                targets 0 = 1
                load 0 = 1
                targets 0 = 2
                load 0 = 2
                targets 0 = 3
                load 0 = state
                targets 0 = 3
                load 4 = 3
                tick 3 = 3
                targets 0 = -1
                load 0 = 4
                done 4 = true""");
        script.play("'at most three TARGETS': a fourth store stalls and puts nothing", """
                store 0 1 = 0
                store 0 2 = 1
                store 0 3 = 2
                store 0 4 = state
                tick 2 = 0
                store 0 5 = state
                tick 1 = 3
                await 0 = 3
                count 4 = 2""");
        script.play("'at most three TARGETS': of each register, not of all", """
                load 0 = 0
                load 1 = 1
                load 2 = 2
                load 4 = 3
                load 5 = 4
                load 6 = 5
                load 8 = 6
                load 9 = 7
                load 10 = 8
                load 3 = state
                load 7 = state
                load 11 = state
                tick 9 = 9
                count 0 = 9""");
    }

    private static void targetsInTheirOrder(Script script) {
        script.play("'TARGETS, in the order in which they came': the first of three", """
                load 2 = 0
                store 2 20 = 1
                store 2 21 = 2
                tick 3 = 3
                value 0 = 2
                await 2 = 21""");
        script.play("'TARGETS, in the order in which they came': between two stores", """
                store 2 20 = 0
                load 2 = 1
                store 2 21 = 2
                tick 3 = 3
                value 1 = 20
                await 2 = 21""");
        script.play("'TARGETS, in the order in which they came': the last of three", """
                store 2 20 = 0
                store 2 21 = 1
                load 2 = 2
                tick 3 = 3
                value 2 = 21
                value 0 = 20""");
    }

    private static void twoWrites(Script script) {
        script.play("'WRITES a line, of which at most two are in the row': until the first of them is over", """
                store 0 1 = 0
                store 4 2 = 1
                store 8 3 = 2
                tick 9 = 3
                store 16 4 = 3
                store 20 5 = 4
                store 24 6 = 5
                tick 9 = 3
                delay 1 = void
                load 12 = 6
                tick 1 = 1
                delay 2 = void
                load 32 = 7
                load 36 = 8
                request 0 = 100
                request 1 = 8
                request 2 = 101
                request 3 = 9
                load 40 = state
                tick 1 = 0
                load 40 = state
                memory 0 = 0
                tick 1 = 0
                memory 0 = 1
                load 40 = 9
                request 0 = 8
                request 1 = 101
                request 2 = 9
                request 3 = 102
                request 4 = 10
                request 5 = -1
                count 4 = 2
                count 6 = 3""");
        script.play("'at most two are in the row': they are no writes of the past", """
                store 0 1 = 0
                store 16 2 = 1
                tick 6 = 2
                load 32 = 2
                load 48 = 3
                tick 12 = 2
                store 32 3 = 4
                store 48 4 = 5
                load 0 = 6
                load 16 = 7
                request 0 = 108
                request 1 = 0
                request 2 = 112
                request 3 = 4
                count 6 = 4
                count 4 = 0""");
    }

    private static void delayWhenFirst(Script script) {
        script.play("'as many ticks as the DELAY was when it came to be the first one (at first 3)'", """
                load 0 = 0
                left = 3
                tick 2 = 0
                left = 1
                tick 1 = 1
                left = 0""");
        script.play("'when it came to be the first one': at once, in an empty row", """
                delay 1 = void
                load 0 = 0
                delay 9 = void
                left = 1
                tick 1 = 1
                load 4 = 1
                delay 1 = void
                left = 9
                tick 8 = 0
                left = 1
                tick 1 = 1""");
        script.play("'when it came to be the first one': not when it was put into the row", """
                load 0 = 0
                delay 9 = void
                load 4 = 1
                tick 2 = 0
                delay 1 = void
                tick 1 = 1
                left = 1
                delay 9 = void
                tick 1 = 1
                left = 0""");
        script.play("'when it came to be the first one': a write as well as a read", """
                store 0 1 = 0
                store 16 2 = 1
                tick 6 = 2
                delay 2 = void
                load 32 = 2
                delay 4 = void
                left = 2
                tick 2 = 0
                memory 0 = 1
                left = 4
                tick 3 = 0
                done 2 = false
                tick 1 = 1
                done 2 = true""");
        script.play("'when it came to be the first one': several in one call of tick", """
                delay 1 = void
                load 0 = 0
                load 4 = 1
                load 8 = 2
                tick 2 = 2
                left = 1
                request 0 = 2
                tick 50 = 1
                left = 0""");
    }

    private static void nextBecomesFirst(Script script) {
        script.play("'then the next one becomes the first': in the tick in which the one before is over", """
                load 0 = 0
                load 4 = 1
                load 8 = 2
                tick 2 = 0
                request 0 = 0
                request 2 = 2
                tick 1 = 1
                request 0 = 1
                request 1 = 2
                request 2 = -1
                left = 3
                tick 3 = 1
                request 0 = 2
                request 1 = -1
                tick 3 = 1
                request 0 = -1
                left = 0""");
        script.play("'then the next one becomes the first': the row wraps around as often as it likes", """
                delay 1 = void
                load 0 = 0
                load 4 = 1
                load 8 = 2
                tick 1 = 1
                load 12 = 3
                request 0 = 1
                request 1 = 2
                request 2 = 3
                request 3 = -1
                tick 2 = 2
                load 16 = 4
                load 20 = 5
                request 0 = 3
                request 1 = 4
                request 2 = 5
                tick 2 = 2
                load 24 = 6
                load 28 = 7
                request 0 = 5
                request 1 = 6
                request 2 = 7
                request 3 = -1
                tick 3 = 3
                request 0 = -1
                value 7 = 28""");
    }

    private static void tickets(Script script) {
        script.play("'a TICKET, 0, 1, ...': of loads, stores and awaits alike, none is left out", """
                count 0 = 0
                load 0 = 0
                load 256 = argument
                store 1 5 = 1
                await 300 = argument
                await 2 = 2
                load 3 = 3
                load 4 = 4
                load 5 = 5
                load 6 = 6
                load 7 = state
                store 7 1 = state
                store 8 1 = 7
                count 0 = 8
                value 2 = 2
                done 7 = false
                done 8 = argument""");
    }
}
