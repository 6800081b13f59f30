/**
 * A small cache in front of a slow memory, which does not wait: accesses that miss are noted and answered
 * when their line comes. The promises that the methods keep are those of the document, ../shared/DOC.md.
 */
public final class MissRegisters {
    private static final int LINES = 64;
    private static final int LINE_WORDS = 4;
    private static final int WORDS = LINES * LINE_WORDS;
    private static final int SETS = 4;
    private static final int WAYS = 2;
    private static final int REGISTERS = 3;
    private static final int MOST_TARGETS = 3;
    private static final int MOST_WRITES = 2;
    // A read stands in the row only with a register in use, so the row can never be longer than this.
    private static final int MOST_REQUESTS = REGISTERS + MOST_WRITES;
    // A call gives at most one ticket, and the document grants an object 512 calls.
    private static final int MOST_TICKETS = 512;
    private static final int MOST_TICKS = 50;
    private static final int FIRST_DELAY = 3;
    private static final int MOST_DELAY = 9;
    // The longest row is served in 45 ticks, and nothing stalls behind an empty one: far more than is needed.
    private static final int MOST_AWAITED_TICKS = 1000;

    private static final int NONE = -1;
    private static final int DIRTY_MARK = 100;
    private static final int AWAITED_MARK = 200;
    private static final int WRITE_MARK = 100;

    private static final int TICKETS = 0;
    private static final int HITS = 1;
    private static final int JOINS = 2;
    private static final int MISSES = 3;
    private static final int STALLS = 4;
    private static final int LINES_AHEAD = 5;
    private static final int LINES_WRITTEN = 6;
    private static final int TICKS = 7;
    private static final int COUNTS = 8;

    private final int[] stored = new int[WORDS];
    private final Way[] ways = new Way[SETS * WAYS];
    private final Register[] registers = new Register[REGISTERS];
    private final Port port = new Port();
    private final int[] values = new int[MOST_TICKETS];
    private final boolean[] answered = new boolean[MOST_TICKETS];
    private final int[] counts = new int[COUNTS];
    private boolean fetchesAhead = false;
    private int uses = 0;

    public MissRegisters() {
        for (int i = 0; i < WORDS; i++) {
            stored[i] = i;
        }
        for (int i = 0; i < SETS * WAYS; i++) {
            ways[i] = new Way();
        }
        for (int i = 0; i < REGISTERS; i++) {
            registers[i] = new Register();
        }
    }

    public int load(int address) throws IllegalArgumentException, IllegalStateException {
        checkAddress(address);
        return ticketOrStall(issue(address, false, 0));
    }

    public int store(int address, int value) throws IllegalArgumentException, IllegalStateException {
        checkAddress(address);
        return ticketOrStall(issue(address, true, value));
    }

    public int await(int address) throws IllegalArgumentException {
        checkAddress(address);
        int ticket = issue(address, false, 0);
        for (int i = 0; i < MOST_AWAITED_TICKS && !isAnswered(ticket); i++) {
            passTick();
            if (ticket == NONE) {
                ticket = issue(address, false, 0);
            }
        }
        return isAnswered(ticket) ? values[ticket] : 0;
    }

    public int tick(int n) throws IllegalArgumentException {
        if (n < 1 || n > MOST_TICKS) {
            throw new IllegalArgumentException("ticks are 1 .. 50");
        }
        int sum = 0;
        for (int i = 0; i < n; i++) {
            sum += passTick();
        }
        return sum;
    }

    public boolean done(int ticket) throws IllegalArgumentException {
        checkTicket(ticket);
        return isAnswered(ticket);
    }

    public int value(int ticket) throws IllegalArgumentException, IllegalStateException {
        checkTicket(ticket);
        if (!isAnswered(ticket)) {
            throw new IllegalStateException("the access is not done");
        }
        return values[ticket];
    }

    public void delay(int d) throws IllegalArgumentException {
        if (d < 1 || d > MOST_DELAY) {
            throw new IllegalArgumentException("a delay is 1 .. 9");
        }
        port.nextDelay = d;
    }

    public void ahead(boolean on) {
        fetchesAhead = on;
    }

    public int flush() throws IllegalStateException {
        if (port.length > 0) {
            throw new IllegalStateException("the row is not empty");
        }
        int cleaned = 0;
        for (int i = 0; i < SETS * WAYS; i++) {
            if (ways[i].dirty) {
                copyToMemory(ways[i].line, ways[i].words);
                ways[i].dirty = false;
                cleaned++;
            }
        }
        return cleaned;
    }

    public int memory(int address) throws IllegalArgumentException {
        checkAddress(address);
        return stored[address];
    }

    public int way(int set, int way) throws IllegalArgumentException {
        if (set < 0 || set >= SETS || way < 0 || way >= WAYS) {
            throw new IllegalArgumentException("no such set or way");
        }
        Way asked = ways[set * WAYS + way];
        if (asked.register != null) {
            return asked.line + AWAITED_MARK;
        }
        return asked.dirty ? asked.line + DIRTY_MARK : asked.line;
    }

    public int targets(int line) throws IllegalArgumentException {
        if (line < 0 || line >= LINES) {
            throw new IllegalArgumentException("no such line");
        }
        Way found = findWay(line);
        if (found == null || found.register == null) {
            return NONE;
        }
        return found.register.size;
    }

    public int request(int k) {
        if (k < 0 || k >= port.length) {
            return NONE;
        }
        Request asked = port.at(k);
        return asked.awaiting == null ? asked.line + WRITE_MARK : asked.line;
    }

    public int left() {
        return port.ticksLeft;
    }

    public int count(int which) throws IllegalArgumentException {
        if (which < 0 || which >= COUNTS) {
            throw new IllegalArgumentException("no such count");
        }
        return counts[which];
    }

    private static void checkAddress(int address) {
        if (address < 0 || address >= WORDS) {
            throw new IllegalArgumentException("no such address");
        }
    }

    private void checkTicket(int ticket) {
        if (ticket < 0 || ticket >= counts[TICKETS]) {
            throw new IllegalArgumentException("no such ticket");
        }
    }

    private static int ticketOrStall(int ticket) {
        if (ticket == NONE) {
            throw new IllegalStateException("the access stalls");
        }
        return ticket;
    }

    private boolean isAnswered(int ticket) {
        return ticket >= 0 && ticket < MOST_TICKETS && answered[ticket];
    }

    /** The ticket of the access, or NONE if it stalls. */
    private int issue(int address, boolean stores, int value) {
        int ticket = counts[TICKETS];
        // More tickets than there is room for can only be asked for behind the 512th call.
        if (ticket >= MOST_TICKETS || !isTaken(ticket, address, stores, value)) {
            counts[STALLS]++;
            return NONE;
        }
        counts[TICKETS]++;
        return ticket;
    }

    private boolean isTaken(int ticket, int address, boolean stores, int value) {
        int line = address / LINE_WORDS;
        int word = address % LINE_WORDS;
        // A ticket that is not given out is not looked at, so a stall may leave the value behind.
        values[ticket] = value;
        Way found = findWay(line);
        if (found == null) {
            return misses(line, ticket, word, stores);
        }
        if (found.register != null) {
            return joins(found, found.register, ticket, word, stores);
        }
        counts[HITS]++;
        use(found);
        answer(found, ticket, word, stores);
        return true;
    }

    private boolean joins(Way found, Register register, int ticket, int word, boolean stores) {
        if (register.size >= MOST_TARGETS) {
            return false;
        }
        counts[JOINS]++;
        use(found);
        register.addTarget(ticket, word, stores);
        return true;
    }

    private boolean misses(int line, int ticket, int word, boolean stores) {
        Register register = findFreeRegister();
        Way chosen = chooseWay(line);
        if (register == null || chosen == null || (chosen.dirty && port.countWrites() >= MOST_WRITES)) {
            return false;
        }
        counts[MISSES]++;
        if (chosen.dirty) {
            port.appendWrite(chosen.line, chosen.words);
            counts[LINES_WRITTEN]++;
        }
        fetch(line, chosen, register);
        register.addTarget(ticket, word, stores);
        if (fetchesAhead) {
            fetchIfWanted(line + 1);
        }
        return true;
    }

    private void fetchIfWanted(int line) {
        if (line >= LINES || findWay(line) != null) {
            return;
        }
        Register register = findFreeRegister();
        Way chosen = chooseWay(line);
        if (register == null || chosen == null || chosen.dirty) {
            return;
        }
        fetch(line, chosen, register);
        counts[LINES_AHEAD]++;
    }

    private void fetch(int line, Way chosen, Register register) {
        register.inUse = true;
        register.size = 0;
        chosen.line = line;
        chosen.dirty = false;
        chosen.register = register;
        use(chosen);
        port.append(line, chosen);
    }

    private void use(Way used) {
        uses++;
        used.usedAt = uses;
    }

    private void answer(Way holder, int ticket, int word, boolean stores) {
        if (stores) {
            holder.words[word] = values[ticket];
            holder.dirty = true;
        } else {
            values[ticket] = holder.words[word];
        }
        answered[ticket] = true;
    }

    /** The way that holds or awaits the line, or null. */
    private Way findWay(int line) {
        int start = line % SETS * WAYS;
        for (int i = start; i < start + WAYS; i++) {
            if (ways[i].line == line) {
                return ways[i];
            }
        }
        return null;
    }

    /** The way into which the line could come, or null if all of its set await lines. */
    private Way chooseWay(int line) {
        int start = line % SETS * WAYS;
        Way chosen = null;
        for (int i = start; i < start + WAYS; i++) {
            Way seen = ways[i];
            if (seen.line == NONE) {
                return seen;
            }
            if (seen.register == null && (chosen == null || seen.usedAt < chosen.usedAt)) {
                chosen = seen;
            }
        }
        return chosen;
    }

    private Register findFreeRegister() {
        for (int i = 0; i < REGISTERS; i++) {
            if (!registers[i].inUse) {
                return registers[i];
            }
        }
        return null;
    }

    /** How many accesses are done by this tick. */
    private int passTick() {
        counts[TICKS]++;
        if (port.length == 0) {
            return 0;
        }
        port.ticksLeft--;
        if (port.ticksLeft > 0) {
            return 0;
        }
        Request over = port.at(0);
        port.dropFirst();
        if (over.awaiting != null) {
            return fill(over.awaiting, over.line);
        }
        copyToMemory(over.line, over.words);
        return 0;
    }

    private int fill(Way awaiting, int line) {
        Register register = awaiting.register;
        if (register == null) {
            return 0;
        }
        for (int i = 0; i < LINE_WORDS; i++) {
            awaiting.words[i] = stored[line * LINE_WORDS + i];
        }
        for (int i = 0; i < register.size; i++) {
            answer(awaiting, register.tickets[i], register.words[i], register.stores[i]);
        }
        awaiting.register = null;
        register.inUse = false;
        return register.size;
    }

    private void copyToMemory(int line, int[] words) {
        for (int i = 0; i < LINE_WORDS; i++) {
            stored[line * LINE_WORDS + i] = words[i];
        }
    }

    /** A way is empty without a line, and awaits its line as long as it has a register. */
    private static final class Way {
        private final int[] words = new int[LINE_WORDS];
        private int line = NONE;
        private boolean dirty = false;
        private Register register = null;
        private int usedAt = 0;
    }

    /** A register with its targets, in the order in which they came. */
    private static final class Register {
        private final int[] tickets = new int[MOST_TARGETS];
        private final int[] words = new int[MOST_TARGETS];
        private final boolean[] stores = new boolean[MOST_TARGETS];
        private boolean inUse = false;
        private int size = 0;

        void addTarget(int ticket, int word, boolean isStore) {
            if (size < MOST_TARGETS) {
                tickets[size] = ticket;
                words[size] = word;
                stores[size] = isStore;
                size++;
            }
        }
    }

    /** A read has the way that awaits its line; a write has none, but the words as they were when it was put. */
    private static final class Request {
        private final int[] words = new int[LINE_WORDS];
        private int line = NONE;
        private Way awaiting = null;
    }

    /** The port of the memory: its requests stand in a ring, so that they are made once and used again. */
    private static final class Port {
        private final Request[] ring = new Request[MOST_REQUESTS];
        private int head = 0;
        private int length = 0;
        private int ticksLeft = 0;
        private int nextDelay = FIRST_DELAY;

        Port() {
            for (int i = 0; i < MOST_REQUESTS; i++) {
                ring[i] = new Request();
            }
        }

        Request at(int k) {
            return ring[(head + k) % MOST_REQUESTS];
        }

        int countWrites() {
            int writes = 0;
            for (int i = 0; i < length; i++) {
                if (at(i).awaiting == null) {
                    writes++;
                }
            }
            return writes;
        }

        Request append(int line, Way awaiting) {
            Request added = ring[(head + length) % MOST_REQUESTS];
            added.line = line;
            added.awaiting = awaiting;
            length++;
            if (length == 1) {
                ticksLeft = nextDelay;
            }
            return added;
        }

        void appendWrite(int line, int[] words) {
            Request added = append(line, null);
            for (int i = 0; i < LINE_WORDS; i++) {
                added.words[i] = words[i];
            }
        }

        void dropFirst() {
            head = (head + 1) % MOST_REQUESTS;
            length--;
            ticksLeft = length > 0 ? nextDelay : 0;
        }
    }
}
