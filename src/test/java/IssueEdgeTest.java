/**
 * The edges that 'Terms' names where it tells how an access is issued (hit, join, miss, fetching ahead), what
 * a tick does and what flushing does. Each title says the sentence. What a stall leaves alone is in RefusalTest.
 */
public final class IssueEdgeTest {
    public static void main(String[] args) {
        Check check = new Check();
        Script script = new Script(check);
        hits(script);
        joins(script);
        missesWithoutRegister(script);
        choosesAnEmptyWay(script);
        choosesTheWayUsedLeastLately(script);
        choosesNoWay(script);
        missesOntoADirtyLine(script);
        writesTheLineAsItIsThen(script);
        aheadIsOffAtFirst(script);
        nextLineIfThereIsOne(script);
        nextLineHeldOrAwaited(script);
        nextLineWithoutRegister(script);
        nextLineIntoAWay(script);
        nextLineUsesItsWay(script);
        onlyAMissFetchesAhead(script);
        ticksOfAnEmptyRow(script);
        ticksThatEndARequest(script);
        flushing(script);
        whatIsThrownFirst(script);
        check.end();
    }

    private static void hits(Script script) {
        script.play("HIT: 'DONE at once', without a tick, in every word of the line", """
                await 4 = 4
                load 4 = 1
                load 7 = 2
                done 1 = true
                done 2 = true
                value 1 = 4
                value 2 = 7
                count 7 = 3
                tick 1 = 0""");
        script.play("HIT: 'a store puts the value there, and the line is dirty', though the value is the same", """
                await 0 = 0
                way 0 0 = 0
                store 0 0 = 1
                way 0 0 = 100
                flush = 1""");
        script.play("HIT: with all registers in use, and two writes in the row", """
                store 0 1 = 0
                store 16 2 = 1
                store 8 3 = 2
                tick 9 = 3
                load 32 = 3
                load 48 = 4
                load 4 = 5
                request 4 = 1
                load 8 = 6
                value 6 = 3
                store 9 4 = 7
                count 1 = 2
                count 4 = 0""");
        script.play("HIT: 'that way is USED now', by a load and by a store", """
                await 0 = 0
                await 16 = 16
                load 0 = 2
                await 32 = 32
                way 0 0 = 0
                way 0 1 = 8
                store 0 5 = 4
                await 48 = 48
                way 0 0 = 100
                way 0 1 = 12""");
    }

    private static void joins(Script script) {
        script.play("JOIN: 'if the register has three targets, it STALLS', load or store, and not with two", """
                load 0 = 0
                load 1 = 1
                count 2 = 1
                store 2 5 = 2
                count 2 = 2
                load 3 = state
                store 3 5 = state
                count 2 = 2
                count 4 = 2
                tick 3 = 3""");
        script.play("JOIN: with all registers in use", """
                load 0 = 0
                load 4 = 1
                load 8 = 2
                load 5 = 3
                store 9 6 = 4
                targets 1 = 2
                targets 2 = 2
                count 2 = 2
                count 4 = 0""");
        script.play("JOIN: in a set whose ways both await lines", """
                load 0 = 0
                load 16 = 1
                load 1 = 2
                load 17 = 3
                targets 0 = 2
                targets 4 = 2
                count 4 = 0""");
        script.play("JOIN: of a line without targets", """
                ahead on = void
                load 0 = 0
                targets 1 = 0
                load 4 = 1
                targets 1 = 1
                load 5 = 2
                store 6 7 = 3
                targets 1 = 3
                load 7 = state
                count 3 = 1
                count 2 = 3
                tick 6 = 4""");
        script.play("JOIN: 'that way is used now', by a load", """
                load 0 = 0
                load 16 = 1
                load 2 = 2
                tick 6 = 3
                load 32 = 3
                way 0 0 = 0
                way 0 1 = 208""");
        script.play("JOIN: 'that way is used now', by a store", """
                load 0 = 0
                load 16 = 1
                store 2 9 = 2
                tick 6 = 3
                load 32 = 3
                way 0 0 = 100
                way 0 1 = 208""");
    }

    private static void missesWithoutRegister(Script script) {
        script.play("MISS: 'if no register is free, it stalls', load or store, though a way is empty", """
                load 0 = 0
                load 4 = 1
                load 8 = 2
                way 3 0 = -1
                load 12 = state
                store 12 5 = state
                way 3 0 = -1
                count 4 = 2
                count 3 = 3""");
        script.play("MISS: 'if no register is free, it stalls', though a way holds a clean line", """
                await 12 = 12
                await 28 = 28
                load 0 = 2
                load 4 = 3
                load 8 = 4
                load 44 = state
                way 3 0 = 3
                way 3 1 = 7""");
        script.play("MISS: with the last register that is free", """
                load 0 = 0
                load 4 = 1
                store 12 5 = 2
                way 3 0 = 203
                count 3 = 3
                count 4 = 0""");
    }

    private static void choosesAnEmptyWay(Script script) {
        script.play("MISS: 'an empty one (the lesser one of two)'", """
                load 4 = 0
                way 1 0 = 201
                way 1 1 = -1""");
        script.play("MISS: 'an empty one': beside one that awaits a line", """
                load 4 = 0
                load 20 = 1
                way 1 0 = 201
                way 1 1 = 205""");
        script.play("MISS: 'an empty one': beside one that holds a line, clean or dirty", """
                await 4 = 4
                load 20 = 1
                way 1 0 = 1
                way 1 1 = 205
                store 8 5 = 2
                tick 6 = 2
                load 24 = 3
                way 2 0 = 102
                way 2 1 = 206
                count 6 = 0""");
        script.play("MISS: 'an empty one': with two writes in the row", """
                store 0 1 = 0
                store 16 2 = 1
                tick 6 = 2
                load 32 = 2
                load 48 = 3
                load 4 = 4
                way 1 0 = 201
                count 4 = 0""");
    }

    private static void choosesTheWayUsedLeastLately(Script script) {
        script.play("MISS: 'the one that was used least lately': way 0, then way 1", """
                await 0 = 0
                await 16 = 16
                await 32 = 32
                way 0 0 = 8
                way 0 1 = 4
                await 48 = 48
                way 0 0 = 8
                way 0 1 = 12""");
        script.play("MISS: 'the one that was used least lately': a stall, a wrong call and a look use nothing", """
                load 0 = 0
                load 1 = 1
                load 2 = 2
                load 16 = 3
                load 3 = state
                load -1 = argument
                way 0 0 = 200
                targets 0 = 3
                tick 6 = 4
                done 0 = true
                value 0 = 0
                memory 0 = 0
                load 32 = 4
                way 0 0 = 208
                way 0 1 = 4""");
        script.play("MISS: 'of those that hold a line': not the one that awaits, though it was used less lately", """
                await 0 = 0
                load 16 = 1
                load 0 = 2
                load 32 = 3
                way 0 0 = 208
                way 0 1 = 204""");
        script.play("MISS: 'of those that hold a line': way 1 while way 0 awaits", """
                await 0 = 0
                await 16 = 16
                load 32 = 2
                load 17 = 3
                load 48 = 4
                way 0 0 = 208
                way 0 1 = 212""");
        script.play("MISS: 'the one that was used least lately': the way of the new line is used now", """
                await 0 = 0
                await 16 = 16
                await 0 = 0
                load 32 = 3
                tick 3 = 1
                load 48 = 4
                way 0 0 = 212
                way 0 1 = 8""");
    }

    private static void choosesNoWay(Script script) {
        script.play("MISS: 'if both await lines, it stalls', load or store, until one of them has come", """
                load 0 = 0
                load 16 = 1
                load 32 = state
                store 32 5 = state
                tick 2 = 0
                load 32 = state
                tick 1 = 1
                load 32 = 2
                way 0 0 = 208
                way 0 1 = 204
                load 0 = state
                count 4 = 4""");
        script.play("MISS: 'if both await lines': one may have been fetched ahead", """
                ahead on = void
                await 12 = 12
                ahead off = void
                way 0 0 = 204
                load 0 = 1
                way 0 1 = 200
                load 32 = state
                count 4 = 1
                load 4 = 2
                tick 3 = 0
                load 32 = 3
                way 0 0 = 208""");
    }

    private static void missesOntoADirtyLine(Script script) {
        script.play("MISS: 'a dirty line, and two writes are in the row, it stalls', load or store", """
                store 0 1 = 0
                store 16 2 = 1
                store 4 3 = 2
                tick 9 = 3
                store 20 4 = 3
                tick 3 = 1
                load 32 = 4
                load 48 = 5
                request 0 = 100
                request 1 = 8
                request 2 = 104
                request 3 = 12
                load 36 = state
                store 36 5 = state
                way 1 0 = 101
                way 1 1 = 105
                request 4 = -1
                count 4 = 2
                count 6 = 2
                tick 3 = 0
                load 36 = 6
                request 3 = 101
                request 4 = 9
                count 6 = 3""");
        script.play("MISS: with two writes in the row, onto a clean line, beside a dirty one", """
                await 4 = 4
                store 20 4 = 1
                store 0 1 = 2
                store 16 2 = 3
                tick 9 = 3
                load 32 = 4
                load 48 = 5
                load 36 = 6
                way 1 0 = 209
                way 1 1 = 105
                count 4 = 0
                count 6 = 2""");
        script.play("MISS: with one write in the row, onto a dirty line", """
                store 0 1 = 0
                store 16 2 = 1
                tick 6 = 2
                load 32 = 2
                count 6 = 1
                load 48 = 3
                count 6 = 2
                count 4 = 0""");
    }

    private static void writesTheLineAsItIsThen(Script script) {
        script.play("MISS: 'put into the row to be written, as it is then': what is stored later is not in it", """
                store 0 9 = 0
                tick 3 = 1
                await 16 = 16
                load 32 = 2
                store 0 10 = 3
                request 0 = 100
                request 1 = 8
                request 2 = 0
                tick 3 = 0
                memory 0 = 9
                tick 6 = 2
                memory 0 = 9
                way 0 1 = 100
                await 0 = 10""");
        script.play("MISS: 'to be written, as it is then': all of its words, and no others", """
                store 4 50 = 0
                store 7 51 = 1
                tick 3 = 2
                store 5 52 = 2
                await 20 = 20
                await 36 = 36
                memory 3 = 3
                memory 4 = 50
                memory 5 = 52
                memory 6 = 6
                memory 7 = 51
                memory 8 = 8""");
        script.play("MISS: two writes in the row, each with the words of its own line", """
                store 0 1 = 0
                store 16 2 = 1
                tick 6 = 2
                load 32 = 2
                load 48 = 3
                tick 12 = 2
                memory 0 = 1
                memory 16 = 2
                memory 32 = 32
                memory 48 = 48""");
    }

    private static void aheadIsOffAtFirst(Script script) {
        script.play("AHEAD: '(at first it is off)'", """
                load 0 = 0
                request 1 = -1
                targets 1 = -1
                way 1 0 = -1
                count 5 = 0""");
    }

    private static void nextLineIfThereIsOne(Script script) {
        script.play("AHEAD: 'the next line (if there is one)': there is none behind line 63", """
                ahead on = void
                load 252 = 0
                request 0 = 63
                request 1 = -1
                way 0 0 = -1
                targets 0 = -1
                count 5 = 0
                store 0 1 = 1
                request 1 = 0
                count 4 = 0""");
        script.play("AHEAD: 'the next line (if there is one)': it is line 63 behind line 62", """
                ahead on = void
                load 251 = 0
                request 0 = 62
                request 1 = 63
                request 2 = -1
                way 3 0 = 263
                targets 63 = 0
                count 5 = 1
                tick 6 = 1
                load 255 = 1
                value 1 = 255""");
        script.play("AHEAD: 'the next line': that of set 0 behind one of set 3", """
                ahead on = void
                load 12 = 0
                request 0 = 3
                request 1 = 4
                way 3 0 = 203
                way 0 0 = 204""");
        script.play("AHEAD: 'the next line' alone, not the one behind it", """
                ahead on = void
                load 0 = 0
                targets 1 = 0
                targets 2 = -1
                request 2 = -1
                tick 6 = 1
                targets 2 = -1
                request 0 = -1
                count 5 = 1""");
    }

    private static void nextLineHeldOrAwaited(Script script) {
        script.play("AHEAD: 'if no way holds or awaits it': a line that is held, clean or dirty", """
                await 4 = 4
                store 20 5 = 1
                tick 3 = 1
                ahead on = void
                load 0 = 2
                load 16 = 3
                request 0 = 0
                request 1 = 4
                request 2 = -1
                count 5 = 0""");
        script.play("AHEAD: 'if no way holds or awaits it': a line that is awaited", """
                load 4 = 0
                ahead on = void
                load 0 = 1
                request 0 = 1
                request 1 = 0
                request 2 = -1
                targets 1 = 1
                count 5 = 0""");
        script.play("AHEAD: 'if no way holds or awaits it': a line that is held is not used by that", """
                await 4 = 4
                await 20 = 20
                ahead on = void
                await 0 = 0
                ahead off = void
                load 36 = 3
                way 1 0 = 209
                way 1 1 = 5""");
        script.play("AHEAD: a line that is on its way out is wanted again, behind its write", """
                store 4 9 = 0
                tick 3 = 1
                await 20 = 20
                load 36 = 2
                request 0 = 101
                ahead on = void
                load 0 = 3
                request 1 = 9
                request 2 = 0
                request 3 = 1
                way 1 1 = 201
                tick 12 = 2
                await 4 = 9
                count 5 = 1""");
    }

    private static void nextLineWithoutRegister(Script script) {
        script.play("AHEAD: 'a register is free': the miss may take the last one", """
                load 0 = 0
                load 16 = 1
                ahead on = void
                load 8 = 2
                request 2 = 2
                request 3 = -1
                targets 3 = -1
                way 3 0 = -1
                count 3 = 3
                count 4 = 0
                count 5 = 0""");
        script.play("AHEAD: 'a register is free': the third one is enough", """
                load 0 = 0
                ahead on = void
                load 8 = 1
                request 1 = 2
                request 2 = 3
                request 3 = -1
                targets 3 = 0
                load 16 = state
                count 5 = 1""");
    }

    private static void nextLineIntoAWay(Script script) {
        script.play("AHEAD: 'the way that is chosen in its set (if one is)': none is, if both await lines", """
                load 4 = 0
                load 20 = 1
                ahead on = void
                load 32 = 2
                request 2 = 8
                request 3 = -1
                count 3 = 3
                count 4 = 0
                count 5 = 0""");
        script.play("AHEAD: 'is empty': the lesser one of two, or the other one", """
                ahead on = void
                await 0 = 0
                way 1 0 = 201
                tick 3 = 0
                await 16 = 16
                way 1 0 = 1
                way 1 1 = 205""");
        script.play("AHEAD: 'or holds a clean line': the one used least lately, which goes without a write", """
                await 4 = 4
                await 20 = 20
                ahead on = void
                load 32 = 2
                request 0 = 8
                request 1 = 9
                request 2 = -1
                way 1 0 = 209
                way 1 1 = 5
                count 5 = 1
                count 6 = 0""");
        script.play("AHEAD: not over a dirty line, with no write in the row", """
                store 4 5 = 0
                store 20 6 = 1
                tick 6 = 2
                ahead on = void
                load 32 = 2
                request 0 = 8
                request 1 = -1
                way 1 0 = 101
                way 1 1 = 105
                count 4 = 0
                count 5 = 0
                count 6 = 0""");
        script.play("AHEAD: a line that was flushed is clean again", """
                store 4 5 = 0
                store 20 6 = 1
                tick 6 = 2
                flush = 2
                ahead on = void
                load 32 = 2
                request 1 = 9
                way 1 0 = 209
                count 5 = 1""");
    }

    private static void nextLineUsesItsWay(Script script) {
        script.play("AHEAD: 'that way awaits it and is used now'", """
                await 4 = 4
                ahead on = void
                await 16 = 16
                ahead off = void
                tick 3 = 0
                way 1 0 = 1
                way 1 1 = 5
                load 36 = 2
                way 1 0 = 209
                way 1 1 = 5""");
        script.play("AHEAD: 'is used now': later than the line beside it", """
                await 4 = 4
                await 20 = 20
                ahead on = void
                await 32 = 32
                ahead off = void
                tick 3 = 0
                way 1 0 = 9
                load 52 = 3
                way 1 0 = 9
                way 1 1 = 213""");
    }

    private static void onlyAMissFetchesAhead(Script script) {
        script.play("AHEAD: not behind a hit, nor behind a join", """
                await 0 = 0
                load 8 = 1
                ahead on = void
                load 1 = 2
                load 9 = 3
                request 0 = 2
                request 1 = -1
                count 5 = 0""");
        script.play("AHEAD: not behind a miss that stalls", """
                load 0 = 0
                load 16 = 1
                ahead on = void
                load 32 = state
                request 2 = -1
                targets 9 = -1
                count 5 = 0""");
        script.play("AHEAD: behind a store and behind an await too", """
                ahead on = void
                store 0 5 = 0
                request 1 = 1
                tick 6 = 1
                await 8 = 8
                request 0 = 3
                targets 3 = 0
                count 5 = 2""");
    }

    private static void ticksOfAnEmptyRow(Script script) {
        script.play("A TICK: 'the first request has one tick less to go (if there is one)'", """
                tick 1 = 0
                tick 50 = 0
                left = 0
                request 0 = -1
                count 7 = 51
                load 0 = 0
                left = 3
                tick 50 = 1
                left = 0
                load 4 = 1
                left = 3""");
    }

    private static void ticksThatEndARequest(Script script) {
        script.play("A TICK: 'if none is left, it is over': a line that was read comes 'clean'", """
                load 0 = 0
                tick 2 = 0
                way 0 0 = 200
                targets 0 = 1
                done 0 = false
                tick 1 = 1
                way 0 0 = 0
                targets 0 = -1
                done 0 = true
                flush = 0""");
        script.play("A TICK: a line comes into its way dirty, if one of its targets stores", """
                load 0 = 0
                store 0 0 = 1
                load 0 = 2
                tick 3 = 3
                way 0 0 = 100
                flush = 1""");
        script.play("A TICK: 'comes clean' into a way that held a dirty line", """
                store 0 1 = 0
                store 16 2 = 1
                tick 6 = 2
                load 32 = 2
                tick 6 = 1
                way 0 0 = 8
                way 0 1 = 104
                flush = 1""");
        script.play("A TICK: 'as the memory has it then': behind a write of the same line", """
                store 0 9 = 0
                tick 3 = 1
                await 16 = 16
                load 32 = 2
                load 0 = 3
                tick 3 = 0
                memory 0 = 9
                tick 6 = 2
                value 3 = 9""");
        script.play("A TICK: 'a written line is in the memory then', not a tick before, and no access is done", """
                store 255 9 = 0
                tick 3 = 1
                await 236 = 236
                load 12 = 2
                request 0 = 163
                tick 2 = 0
                memory 255 = 255
                tick 1 = 0
                memory 255 = 9
                memory 254 = 254
                memory 252 = 252""");
        script.play("A TICK: a line without targets comes, and no access is done", """
                ahead on = void
                load 0 = 0
                tick 3 = 1
                targets 1 = 0
                tick 3 = 0
                targets 1 = -1
                way 1 0 = 1""");
        script.play("A TICK: '(but the way is not used by that)'", """
                load 16 = 0
                load 0 = 1
                tick 6 = 2
                load 17 = 2
                load 32 = 3
                load 19 = 4
                tick 3 = 1
                load 48 = 5
                way 0 0 = 4
                way 0 1 = 212""");
        script.play("A TICK: 'the register is free', and has no target of the line before", """
                load 0 = 0
                load 1 = 1
                load 2 = 2
                tick 3 = 3
                load 4 = 3
                targets 1 = 1
                load 5 = 4
                load 6 = 5
                load 7 = state
                tick 3 = 3""");
    }

    private static void flushing(Script script) {
        script.play("FLUSHING: 'each dirty line of a way': none in a new object, none in a clean cache", """
                flush = 0
                await 0 = 0
                flush = 0
                memory 0 = 0""");
        script.play("FLUSHING: 'each dirty line of a way': all eight", """
                store 0 -1 = 0
                store 5 -2 = 1
                store 10 -3 = 2
                tick 9 = 3
                store 15 -4 = 3
                store 16 -5 = 4
                store 21 -6 = 5
                tick 9 = 3
                store 26 -7 = 6
                store 255 -8 = 7
                tick 6 = 2
                flush = 8
                memory 0 = -1
                memory 5 = -2
                memory 10 = -3
                memory 15 = -4
                memory 16 = -5
                memory 21 = -6
                memory 26 = -7
                memory 255 = -8
                way 0 0 = 0
                way 0 1 = 4
                way 1 0 = 1
                way 1 1 = 5
                way 2 0 = 2
                way 2 1 = 6
                way 3 0 = 3
                way 3 1 = 63
                flush = 0
                count 6 = 0
                count 7 = 24""");
        script.play("FLUSHING: 'put into the memory, and is clean': the way is not used, nor is a write put into the row", """
                store 0 9 = 0
                tick 3 = 1
                await 16 = 16
                flush = 1
                request 0 = -1
                load 32 = 2
                way 0 0 = 208
                way 0 1 = 4
                request 0 = 8
                request 1 = -1
                count 6 = 0""");
        script.play("FLUSHING: 'only while the row is empty': not with a read in it, up to its last tick", """
                store 0 9 = 0
                flush = state
                tick 2 = 0
                flush = state
                tick 1 = 1
                flush = 1
                memory 0 = 9""");
        script.play("FLUSHING: 'only while the row is empty': not with a write and a read in it", """
                store 0 9 = 0
                store 16 8 = 1
                tick 6 = 2
                load 32 = 2
                request 0 = 100
                flush = state
                tick 3 = 0
                request 0 = 8
                flush = state
                memory 16 = 16
                tick 3 = 1
                flush = 1
                memory 16 = 8""");
        script.play("FLUSHING: 'only while the row is empty': not with a line in it that is fetched ahead", """
                ahead on = void
                store 0 9 = 0
                tick 3 = 1
                flush = state
                tick 3 = 0
                flush = 1""");
    }

    private static void whatIsThrownFirst(Script script) {
        script.play("'the first of those listed': a wrong address where every access would stall", """
                load 0 = 0
                load 1 = 1
                load 2 = 2
                load 4 = 3
                load 8 = 4
                load 3 = state
                load 12 = state
                load 256 = argument
                load -1 = argument
                store 256 1 = argument
                store -1 1 = argument
                store most 1 = argument
                store least 1 = argument
                await 256 = argument
                count 4 = 2
                count 7 = 0""");
        script.play("'the first of those listed': no such ticket, while others are not done", """
                load 0 = 0
                value 0 = state
                value 1 = argument
                value -1 = argument""");
    }
}
