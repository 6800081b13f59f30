/** Promises 1 to 5: a new object, load, store, await and tick, and with them how an access is issued. */
public final class AccessTest {
    public static void main(String[] args) {
        Check check = new Check();
        Script script = new Script(check);
        newObject(check);
        loads(script);
        stores(script);
        registersStall(script);
        choosesWays(script);
        writesStall(script);
        writesBack(script);
        awaits(script);
        ticks(script);
        check.end();
    }

    private static void newObject(Check check) {
        MissRegisters x = new MissRegisters();
        for (int set = 0; set < 4; set++) {
            for (int way = 0; way < 2; way++) {
                int s = set;
                int w = way;
                check.due("new: way(" + s + ", " + w + ")", -1, () -> x.way(s, w));
            }
        }
        for (int line = 0; line < 64; line++) {
            int l = line;
            check.due("new: targets(" + l + ")", -1, () -> x.targets(l));
        }
        for (int address = 0; address < 256; address++) {
            int a = address;
            check.due("new: memory(" + a + ")", a, () -> x.memory(a));
        }
        for (int which = 0; which < 8; which++) {
            int w = which;
            check.due("new: count(" + w + ")", 0, () -> x.count(w));
        }
        check.due("new: request(0)", -1, () -> x.request(0));
        check.due("new: left()", 0, () -> x.left());
        check.due("new: flush()", 0, () -> x.flush());
        check.argument("new: done(0)", () -> x.done(0) ? 1 : 0);
    }

    private static void loads(Script script) {
        script.play("load of a line that misses, is joined and hit", """
                load 0 = 0
                count 3 = 1
                load 3 = 1
                count 2 = 1
                targets 0 = 2
                tick 3 = 2
                load 2 = 2
                done 2 = true
                value 2 = 2
                count 1 = 1
                count 0 = 3""");
        script.play("load of a wrong address changes nothing", """
                load -1 = argument
                load 256 = argument
                load least = argument
                load most = argument
                count 0 = 0
                count 4 = 0
                request 0 = -1
                load 255 = 0
                request 0 = 63
                way 3 0 = 263""");
        script.play("a fourth target stalls, and only that is counted", """
                load 4 = 0
                load 5 = 1
                load 6 = 2
                load 7 = state
                targets 1 = 3
                count 0 = 3
                count 2 = 2
                count 4 = 1
                tick 3 = 3
                load 7 = 3
                value 3 = 7""");
        script.play("what is wrong comes before what stalls", """
                load 0 = 0
                load 16 = 1
                load 4 = 2
                load 256 = argument
                store -1 5 = argument
                count 4 = 0
                load 8 = state
                count 4 = 1""");
    }

    private static void stores(Script script) {
        script.play("targets are done in the order in which they came", """
                load 1 = 0
                store 1 50 = 1
                load 1 = 2
                tick 3 = 3
                value 0 = 1
                value 1 = 50
                value 2 = 50
                way 0 0 = 100
                memory 1 = 1""");
        script.play("store of a line that is there", """
                await 8 = 8
                way 2 0 = 2
                store 11 least = 1
                done 1 = true
                value 1 = -2147483648
                way 2 0 = 102
                memory 11 = 11
                await 11 = -2147483648
                await 10 = 10""");
        script.play("a value is that of its own access", """
                store 0 7 = 0
                tick 3 = 1
                store 0 8 = 1
                value 0 = 7
                value 1 = 8""");
        script.play("store of a wrong address, and one that stalls", """
                store -1 5 = argument
                store 256 5 = argument
                store least 5 = argument
                store 255 5 = 0
                store 254 6 = 1
                store 253 7 = 2
                store 252 8 = state
                count 0 = 3
                count 4 = 1
                tick 3 = 3
                await 252 = 252
                await 255 = 5""");
    }

    private static void registersStall(Script script) {
        script.play("a miss without a free register stalls", """
                load 0 = 0
                load 4 = 1
                load 8 = 2
                load 12 = state
                way 3 0 = -1
                count 3 = 3
                count 4 = 1
                load 9 = 3
                tick 3 = 1
                load 12 = 4
                way 3 0 = 203""");
        script.play("a set whose ways both await lines stalls, with a register free", """
                load 0 = 0
                load 16 = 1
                load 32 = state
                count 4 = 1
                load 4 = 2
                tick 3 = 1
                load 32 = 3
                way 0 0 = 208
                way 0 1 = 204""");
    }

    private static void choosesWays(Script script) {
        script.play("the way that was used least lately goes", """
                await 0 = 0
                await 16 = 16
                way 0 0 = 0
                way 0 1 = 4
                await 0 = 0
                await 32 = 32
                way 0 0 = 0
                way 0 1 = 8
                await 48 = 48
                way 0 0 = 12
                way 0 1 = 8""");
        script.play("a join uses its way, the coming of the line does not", """
                load 0 = 0
                load 16 = 1
                load 1 = 2
                tick 50 = 3
                await 32 = 32
                way 0 0 = 0
                way 0 1 = 8""");
        script.play("the coming of a line does not use its way", """
                load 0 = 0
                tick 3 = 1
                load 16 = 1
                load 1 = 2
                tick 3 = 1
                load 32 = 3
                way 0 0 = 0
                way 0 1 = 208""");
        script.play("a join that stalls does not use its way", """
                load 0 = 0
                load 1 = 1
                load 2 = 2
                load 16 = 3
                load 3 = state
                tick 50 = 4
                load 32 = 4
                way 0 0 = 208
                way 0 1 = 4""");
        script.play("a way that awaits is not chosen, though it was used less lately", """
                await 0 = 0
                load 16 = 1
                load 2 = 2
                load 32 = 3
                way 0 0 = 208
                way 0 1 = 204""");
        script.play("an empty way goes before one that holds a line", """
                await 20 = 20
                await 36 = 36
                way 1 0 = 5
                way 1 1 = 9
                way 0 0 = -1
                way 2 0 = -1""");
    }

    private static void writesStall(Script script) {
        script.play("a third write in the row stalls; a clean line goes on", """
                store 0 1 = 0
                store 4 2 = 1
                store 8 3 = 2
                tick 9 = 3
                store 16 4 = 3
                store 20 5 = 4
                store 24 6 = 5
                tick 9 = 3
                load 28 = 6
                tick 3 = 1
                load 32 = 7
                load 36 = 8
                request 0 = 100
                request 1 = 8
                request 2 = 101
                request 3 = 9
                request 4 = -1
                load 40 = state
                count 4 = 1
                load 44 = 9
                request 4 = 11
                request 5 = -1
                tick 6 = 1
                load 40 = 10
                count 6 = 3
                request 2 = 11
                request 3 = 102
                request 4 = 10""");
    }

    private static void writesBack(Script script) {
        script.play("a dirty line is written as it was, before the line that drives it out is read", """
                store 2 70 = 0
                tick 3 = 1
                await 16 = 16
                load 34 = 2
                request 0 = 100
                request 1 = 8
                count 6 = 1
                way 0 0 = 208
                store 34 71 = 3
                tick 2 = 0
                memory 2 = 2
                tick 1 = 0
                memory 2 = 70
                memory 34 = 34
                tick 3 = 2
                value 2 = 34
                value 3 = 71
                way 0 0 = 108""");
        script.play("a line that is wanted again while it is to be written comes as it was written", """
                store 0 9 = 0
                store 16 8 = 1
                tick 6 = 2
                load 32 = 2
                load 0 = 3
                request 0 = 100
                request 1 = 8
                request 2 = 104
                request 3 = 0
                tick 12 = 2
                value 3 = 9
                way 0 1 = 0
                memory 16 = 8""");
        script.play("a clean line is not written", """
                await 0 = 0
                await 16 = 16
                load 32 = 2
                request 0 = 8
                request 1 = -1
                count 6 = 0""");
    }

    private static void awaits(Script script) {
        script.play("await takes the ticks it needs, and no more", """
                await 5 = 5
                count 7 = 3
                count 0 = 1
                done 0 = true
                value 0 = 5
                await 6 = 6
                count 7 = 3
                count 1 = 1
                load 9 = 2
                await 14 = 14
                count 7 = 9
                done 2 = true""");
        script.play("await counts each of its stalls", """
                load 0 = 0
                load 4 = 1
                load 8 = 2
                await 12 = 12
                count 4 = 3
                count 0 = 4
                count 7 = 12
                value 3 = 12""");
        script.play("await joins a line on its way, behind a store", """
                store 8 77 = 0
                await 8 = 77
                count 2 = 1
                count 4 = 0
                count 7 = 3""");
        script.play("await of a wrong address", """
                await -1 = argument
                await 256 = argument
                await most = argument
                count 0 = 0
                count 7 = 0
                await 255 = 255
                await 0 = 0""");
        script.play("await behind the longest row, at the longest delay", """
                delay 9 = void
                store 0 1 = 0
                store 16 2 = 1
                tick 50 = 2
                store 4 3 = 2
                tick 9 = 1
                load 32 = 3
                load 48 = 4
                load 8 = 5
                request 4 = 2
                await 12 = 12
                count 4 = 18
                count 7 = 113""");
    }

    private static void ticks(Script script) {
        script.play("tick tells the accesses that were done in it", """
                load 0 = 0
                load 1 = 1
                load 4 = 2
                tick 2 = 0
                tick 1 = 2
                done 2 = false
                tick 3 = 1
                tick 50 = 0
                count 7 = 56""");
        script.play("ticks over several requests are added up", """
                load 0 = 0
                store 1 5 = 1
                load 4 = 2
                tick 6 = 3
                load 0 = 3
                tick 1 = 0""");
        script.play("tick of a wrong number changes nothing", """
                load 0 = 0
                tick 0 = argument
                tick 51 = argument
                tick -1 = argument
                tick least = argument
                tick most = argument
                count 7 = 0
                left = 3
                tick 50 = 1""");
    }
}
