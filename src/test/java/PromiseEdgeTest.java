/**
 * The edges that the promises name beside the bounds of their arguments (those are in BoundsTest) and what is
 * refused (RefusalTest): promise by promise, and the 512 calls that an object has.
 */
public final class PromiseEdgeTest {
    public static void main(String[] args) {
        Check check = new Check();
        Script script = new Script(check);
        newObject(script);
        awaitsWithoutAStall(script);
        awaitsBehindStalls(script);
        ticksTellWhatWasDone(script);
        doneOfEachKind(script);
        valuesStay(script);
        delayOfTheFirstOne(script);
        aheadOnAndOff(script);
        flushAnswers(script);
        memoryBehindTheCache(script);
        ways(script);
        targets(script);
        requests(script);
        left(script);
        counts(script);
        lastOf512Calls(check);
        callsBehindThe512th(check);
        check.end();
    }

    private static void newObject(Script script) {
        script.play("1: 'the cache is empty, the row too, no register is in use'", """
                way 0 0 = -1
                way 0 1 = -1
                way 1 0 = -1
                way 1 1 = -1
                way 2 0 = -1
                way 2 1 = -1
                way 3 0 = -1
                way 3 1 = -1
                request 0 = -1
                left = 0
                targets 0 = -1
                targets 63 = -1
                done 0 = argument
                value 0 = argument
                flush = 0
                load 0 = 0
                load 4 = 1
                load 8 = 2
                load 12 = state""");
    }

    private static void awaitsWithoutAStall(Script script) {
        script.play("4: await of a line that is there takes no tick", """
                await 0 = 0
                count 7 = 3
                store 3 9 = 1
                await 3 = 9
                count 7 = 3
                count 1 = 2
                count 4 = 0""");
        script.play("4: 'ticks go on until it is done', and no further", """
                load 0 = 0
                await 4 = 4
                count 7 = 6
                load 8 = 2
                load 12 = 3
                await 9 = 9
                count 7 = 9
                request 0 = 3
                left = 3
                done 3 = false""");
        script.play("4: await joins as the third target", """
                store 0 7 = 0
                store 0 8 = 1
                tick 2 = 0
                await 0 = 8
                count 7 = 3
                count 2 = 2
                count 4 = 0""");
        script.play("4: await gets the value as it is when the load is done, before a store that comes later", """
                await 0 = 0
                store 0 5 = 1
                value 0 = 0
                await 0 = 5
                value 2 = 5""");
        script.play("4: await with the shortest and the longest delay", """
                delay 1 = void
                await 255 = 255
                count 7 = 1
                delay 9 = void
                await 0 = 0
                count 7 = 10""");
    }

    private static void awaitsBehindStalls(Script script) {
        script.play("4: 'as soon as it does not stall': behind a register with three targets", """
                load 0 = 0
                load 1 = 1
                load 2 = 2
                await 3 = 3
                count 4 = 3
                count 7 = 3
                count 1 = 1
                count 0 = 4
                value 3 = 3""");
        script.play("4: 'as soon as it does not stall': behind three registers in use", """
                load 0 = 0
                load 4 = 1
                load 8 = 2
                await 12 = 12
                count 4 = 3
                count 7 = 12
                count 3 = 4
                count 0 = 4
                request 0 = -1""");
        script.play("4: 'as soon as it does not stall': behind a set whose ways both await lines", """
                load 0 = 0
                load 16 = 1
                tick 1 = 0
                await 32 = 32
                count 4 = 2
                count 7 = 9
                way 0 0 = 8
                way 0 1 = 4""");
        script.play("4: 'as soon as it does not stall': behind two writes in the row", """
                store 0 1 = 0
                store 16 2 = 1
                store 4 3 = 2
                tick 9 = 3
                store 20 4 = 3
                tick 3 = 1
                load 32 = 4
                load 48 = 5
                await 36 = 36
                count 4 = 3
                count 6 = 3
                count 7 = 30
                memory 4 = 3""");
        script.play("4: an await that stalls has its ticket only when it is issued", """
                load 0 = 0
                load 1 = 1
                load 2 = 2
                count 0 = 3
                await 0 = 0
                count 0 = 4
                load 0 = 4""");
    }

    private static void ticksTellWhatWasDone(Script script) {
        script.play("5: 'how many accesses were done in them': none of an empty row, none that hit", """
                tick 1 = 0
                load 0 = 0
                tick 3 = 1
                load 0 = 1
                store 1 5 = 2
                tick 50 = 0""");
        script.play("5: 'how many accesses were done in them': nine of three lines, in one call or in three", """
                load 0 = 0
                load 1 = 1
                load 2 = 2
                store 4 1 = 3
                store 5 2 = 4
                store 6 3 = 5
                load 8 = 6
                store 9 4 = 7
                load 10 = 8
                tick 8 = 6
                tick 1 = 3
                count 7 = 9
                load 12 = 9
                load 16 = 10
                load 20 = 11
                tick 50 = 3
                count 7 = 59""");
        script.play("5: fifty ticks go past several requests, at the longest delay", """
                delay 9 = void
                load 0 = 0
                load 4 = 1
                load 8 = 2
                tick 27 = 3
                load 12 = 3
                tick 50 = 1""");
    }

    private static void doneOfEachKind(Script script) {
        script.play("6: 'whether an access is done': a hit, a join, a miss, an await; the last ticket and the next", """
                await 0 = 0
                done 0 = true
                done 1 = argument
                load 0 = 1
                done 1 = true
                load 4 = 2
                store 5 1 = 3
                done 2 = false
                done 3 = false
                tick 2 = 0
                done 3 = false
                tick 1 = 2
                done 2 = true
                done 3 = true
                done 4 = argument""");
    }

    private static void valuesStay(Script script) {
        script.play("7: 'what a load got, or a store put': also when the line has gone", """
                store 0 5 = 0
                load 0 = 1
                tick 3 = 2
                store 0 6 = 2
                value 0 = 5
                value 1 = 5
                value 2 = 6
                await 16 = 16
                await 32 = 32
                await 48 = 48
                value 0 = 5
                value 1 = 5
                value 2 = 6
                value 3 = 16""");
        script.play("7: 'it is not done': until the last tick", """
                load 7 = 0
                value 0 = state
                tick 2 = 0
                value 0 = state
                tick 1 = 1
                value 0 = 7""");
    }

    private static void delayOfTheFirstOne(Script script) {
        script.play("8: 'not for the one that is it', not even before its first tick", """
                load 0 = 0
                delay 1 = void
                left = 3
                tick 2 = 0
                delay 9 = void
                left = 1
                tick 1 = 1
                load 4 = 1
                left = 9""");
    }

    private static void aheadOnAndOff(Script script) {
        script.play("9: 'on, or off': once more on is on, once more off is off", """
                ahead on = void
                ahead on = void
                load 0 = 0
                targets 1 = 0
                ahead off = void
                targets 1 = 0
                request 1 = 1
                ahead off = void
                tick 6 = 1
                load 8 = 1
                targets 3 = -1
                ahead off = void
                ahead on = void
                load 16 = 2
                targets 5 = 0""");
    }

    private static void flushAnswers(Script script) {
        script.play("10: 'how many lines were dirty': none, one, and each only once", """
                flush = 0
                store 0 1 = 0
                store 1 2 = 1
                tick 3 = 2
                store 2 3 = 2
                flush = 1
                flush = 0
                load 0 = 3
                flush = 0
                store 0 1 = 4
                flush = 1""");
    }

    private static void memoryBehindTheCache(Script script) {
        script.play("11: 'as the memory has it': not as the cache has it, nor as the row has it", """
                store 0 5 = 0
                memory 0 = 0
                tick 3 = 1
                memory 0 = 0
                await 16 = 16
                load 32 = 2
                memory 0 = 0
                tick 3 = 0
                memory 0 = 5""");
    }

    private static void ways(Script script) {
        script.play("12: '-1 it is empty; otherwise its line, 100 more, 200 more': of line 0 and of line 63", """
                way 0 0 = -1
                load 0 = 0
                way 0 0 = 200
                load 252 = 1
                way 3 0 = 263
                tick 6 = 2
                way 0 0 = 0
                way 3 0 = 63
                store 0 0 = 2
                store 255 0 = 3
                way 0 0 = 100
                way 3 0 = 163""");
        script.play("12: '200 more when it is awaited', not 100 more as well, where a dirty line was", """
                store 0 1 = 0
                store 16 1 = 1
                tick 6 = 2
                store 32 1 = 2
                way 0 0 = 208
                way 0 1 = 104""");
    }

    private static void targets(Script script) {
        script.play("13: '0 of one that is fetched ahead; -1 when it is not awaited': held, gone or to be written", """
                ahead on = void
                load 0 = 0
                targets 0 = 1
                targets 1 = 0
                targets 2 = -1
                tick 6 = 1
                targets 0 = -1
                targets 1 = -1
                ahead off = void
                store 0 5 = 1
                await 16 = 16
                load 32 = 3
                request 0 = 100
                targets 0 = -1
                targets 8 = 1
                targets 4 = -1""");
    }

    private static void requests(Script script) {
        script.play("14: 'the k-th request of the row; -1 when there is none': an empty row, and one of five", """
                request 0 = -1
                request -1 = -1
                store 0 1 = 0
                store 16 2 = 1
                tick 6 = 2
                request 0 = -1
                load 32 = 2
                load 48 = 3
                load 4 = 4
                request -1 = -1
                request 0 = 100
                request 1 = 8
                request 2 = 104
                request 3 = 12
                request 4 = 1
                request 5 = -1
                request least = -1
                request most = -1
                tick 15 = 3
                request 0 = -1""");
        script.play("14: 'its line, 100 more for a write': of line 0 and of line 63", """
                load 0 = 0
                load 252 = 1
                request 0 = 0
                request 1 = 63
                tick 6 = 2
                store 255 5 = 2
                store 0 5 = 3
                await 12 = 12
                await 16 = 16
                load 28 = 6
                load 32 = 7
                request 0 = 163
                request 1 = 7
                request 2 = 100
                request 3 = 8""");
    }

    private static void left(Script script) {
        script.play("15: 'how many ticks; 0 when there is none': at the shortest and at the longest delay", """
                left = 0
                delay 1 = void
                left = 0
                load 0 = 0
                left = 1
                tick 1 = 1
                left = 0
                delay 9 = void
                left = 0
                load 4 = 1
                left = 9
                tick 8 = 0
                left = 1
                tick 1 = 1
                left = 0""");
    }

    private static void counts(Script script) {
        script.play("16: '6 lines written (put into the row; not by flush())', when they are put there", """
                store 0 1 = 0
                tick 3 = 1
                flush = 1
                count 6 = 0
                store 0 2 = 1
                await 16 = 16
                load 32 = 3
                count 6 = 1
                tick 6 = 1
                count 6 = 1""");
        script.play("16: '5 lines fetched ahead (put into the row)', when they are put there, none of those put off", """
                ahead on = void
                load 0 = 0
                count 5 = 1
                load 8 = 1
                count 5 = 1
                tick 9 = 2
                count 5 = 1
                load 252 = 2
                count 5 = 1""");
        script.play("16: '1 hits, 2 joins, 3 misses, 4 stalls': one access counts once, targets are no hits", """
                load 0 = 0
                load 1 = 1
                load 2 = 2
                load 3 = state
                tick 3 = 3
                count 0 = 3
                count 1 = 0
                count 2 = 2
                count 3 = 1
                count 4 = 1
                load 3 = 3
                count 0 = 4
                count 1 = 1""");
    }

    /** What the document says first: 'at most 512 calls', and the last of them is as good as the first. */
    private static void lastOf512Calls(Check check) {
        MissRegisters loads = new MissRegisters();
        check.due("call 1 of 512, await", 7, () -> loads.await(7));
        for (int i = 1; i < 510; i++) {
            int ticket = i;
            check.due("call " + (i + 1) + " of 512, load", ticket, () -> loads.load(7));
        }
        check.due("call 511 of 512, done", 1, () -> loads.done(509) ? 1 : 0);
        check.due("call 512 of 512, value", 7, () -> loads.value(509));

        MissRegisters stores = new MissRegisters();
        check.due("call 1 of 512, await", 0, () -> stores.await(0));
        for (int i = 1; i < 510; i++) {
            int ticket = i;
            check.due("call " + (i + 1) + " of 512, store", ticket, () -> stores.store(0, 1000 + ticket));
        }
        check.due("call 511 of 512, flush", 1, () -> stores.flush());
        check.due("call 512 of 512, memory", 1509, () -> stores.memory(0));

        MissRegisters awaits = new MissRegisters();
        for (int i = 0; i < 512; i++) {
            int address = i * 4 % 256;
            check.due("call " + (i + 1) + " of 512, await", address, () -> awaits.await(address));
        }
    }

    /** 'What later calls answer is free', but each ends, and throws nothing that its heading does not list. */
    private static void callsBehindThe512th(Check check) {
        MissRegisters x = new MissRegisters();
        for (int i = 0; i < 2048; i++) {
            int address = i % 256;
            check.due("a late load", true, isAnswerOr("throws.IllegalStateException", () -> x.load(address)));
            check.due("a late store", true, isAnswerOr("throws.IllegalStateException", () -> x.store(address, 1)));
            check.due("a late await", true, isAnswerOr("none", () -> x.await(address)));
            check.due("a late tick", true, isAnswerOr("none", () -> x.tick(1)));
            check.due("a late done", true,
                    isAnswerOr("throws.IllegalArgumentException", () -> x.done(600) ? 1 : 0));
        }
    }

    private static boolean isAnswerOr(String thrown, Check.Call call) {
        String outcome = Check.outcome(call);
        return !outcome.startsWith("throws") || outcome.equals(thrown);
    }
}
