/** Cores with caches that share a memory and run stretches of their programs as transactions. */
public final class TransactionCores {
    private static final int WORDS = 64;
    private static final int REGISTERS = 8;
    private static final int PLACES = 16;
    private static final int DEEPEST = 3;
    private static final int MOST_STEPS = 16;

    private static final int INVALID = 0;
    private static final int SHARED = 1;
    private static final int MODIFIED = 2;

    private static final int READ_MARK = 1;
    private static final int WRITE_MARK = 2;

    private static final int COMMIT = 0;
    private static final int CONFLICT = 1;
    private static final int OVERFLOW = 2;
    private static final int NESTING = 3;
    private static final int EXPLICIT = 4;
    private static final int FAULT = 5;
    private static final int FATES = 6;

    private static final int CAUSE_REGISTER = 7;
    private static final int PC = 8;
    private static final int DEPTH = 9;
    private static final int STOPPED = 10;

    private static final int DID_STOP = 0;
    private static final int DID_WAIT = 1;
    private static final int DID_ABORT = 2;
    private static final int DID_COMMIT = 3;
    private static final int DID_ELSE = 4;

    /** A request of poke comes from no core, so it meets every one of them. */
    private static final int OUTSIDE = -1;

    private final Store store;
    private final Core[] cores;
    private int requestCount;
    private int accessCount;

    public TransactionCores(int n, int sets, int ways) {
        int coreCount = oneToThree(n);
        store = new Store();
        cores = new Core[coreCount];
        for (int c = 0; c < coreCount; c++) {
            cores[c] = new Core(c, new Cache(nearestSets(sets), oneToThree(ways)));
        }
    }

    public void code(int core, int place, int word) throws IndexOutOfBoundsException {
        checkThere(core, cores.length);
        checkThere(place, PLACES);
        cores[core].program[place] = word;
    }

    public void poke(int address, int value) {
        sendRequest(OUTSIDE, lineOf(address), true);
        store.put(address, value);
    }

    public int peek(int address) {
        int line = lineOf(address);
        for (int c = 0; c < cores.length; c++) {
            Way found = cores[c].cache.find(line);
            if (found != null && found.state == MODIFIED && (found.marks & WRITE_MARK) == 0) {
                return found.get(address);
            }
        }
        return store.get(address);
    }

    public int step(int core) throws IndexOutOfBoundsException {
        checkThere(core, cores.length);
        return takeStep(cores[core]);
    }

    public int run(int order, int steps) throws IllegalArgumentException {
        if (steps < 0 || steps > MOST_STEPS) {
            throw new IllegalArgumentException("steps are 0 to 16");
        }
        int commits = 0;
        for (int k = 0; k < steps; k++) {
            int core = ((order >>> (2 * k)) & 3) % cores.length;
            if (takeStep(cores[core]) == DID_COMMIT) {
                commits++;
            }
        }
        return commits;
    }

    public void jump(int core, int pc) throws IndexOutOfBoundsException, IllegalStateException {
        checkThere(core, cores.length);
        if (cores[core].depth > 0) {
            throw new IllegalStateException("the core has a transaction");
        }
        cores[core].pc = place(pc);
        cores[core].stopped = false;
    }

    public int register(int core, int r) throws IndexOutOfBoundsException {
        checkThere(core, cores.length);
        checkThere(r, STOPPED + 1);
        Core asked = cores[core];
        switch (r) {
            case PC:
                return asked.pc;
            case DEPTH:
                return asked.depth;
            case STOPPED:
                return asked.stopped ? 1 : 0;
            default:
                return asked.registers[r];
        }
    }

    public int fate(int core, int cause) throws IndexOutOfBoundsException {
        checkThere(core, cores.length);
        checkThere(cause, FATES);
        return cores[core].fates[cause];
    }

    public int way(int core, int set, int way, int what) throws IndexOutOfBoundsException {
        checkThere(core, cores.length);
        Cache cache = cores[core].cache;
        checkThere(set, cache.sets);
        checkThere(way, cache.waysOfSet);
        checkThere(what, 5);
        Way asked = cache.ways[set * cache.waysOfSet + way];
        if (what == 0) {
            return asked.state;
        }
        return asked.state == INVALID ? -1 : asked.tell(what);
    }

    public int memory(int address) {
        return store.get(address);
    }

    public int requests() {
        return requestCount;
    }

    private static void checkThere(int index, int bound) {
        if (index < 0 || index >= bound) {
            throw new IndexOutOfBoundsException("there is no such thing");
        }
    }

    private static int oneToThree(int wanted) {
        return Math.max(1, Math.min(3, wanted));
    }

    /** 3 is as near to 2 as to 4, and the lesser one is due. */
    private static int nearestSets(int wanted) {
        if (wanted <= 1) {
            return 1;
        }
        return wanted <= 3 ? 2 : 4;
    }

    private static int place(int pc) {
        return pc & (PLACES - 1);
    }

    private static int lineOf(int address) {
        return (address & (WORDS - 1)) >> 1;
    }

    private static int kindOf(int word) {
        return word & 15;
    }

    private static int registerA(int word) {
        return (word >> 4) & 7;
    }

    private static int registerB(int word) {
        return (word >> 7) & 7;
    }

    private static int registerC(int word) {
        return immediateOf(word) & 7;
    }

    private static int immediateOf(int word) {
        return word >> 11;
    }

    private int takeStep(Core core) {
        if (core.stopped) {
            return DID_STOP;
        }
        int before = core.pc;
        int word = core.program[before];
        core.pc = place(before + 1);
        switch (kindOf(word)) {
            case 0:
                core.pc = before;
                return DID_WAIT;
            case 1: case 2: case 3: case 4: case 12: case 13:
                core.reckon(word);
                return DID_ELSE;
            case 5:
                return load(core, word);
            case 6:
                return save(core, word);
            case 7: case 8:
                core.branch(word);
                return DID_ELSE;
            case 9:
                return core.begin(immediateOf(word));
            case 10:
                return core.depth == 0 ? core.fault(before) : core.end();
            case 11:
                return core.giveUp(immediateOf(word));
            default:
                return core.fault(before);
        }
    }

    private int load(Core core, int word) {
        int address = core.addressOf(word);
        Way found = access(core, lineOf(address), false);
        if (found == null) {
            return DID_ABORT;
        }
        core.registers[registerA(word)] = found.get(address);
        return DID_ELSE;
    }

    private int save(Core core, int word) {
        int address = core.addressOf(word);
        Way found = access(core, lineOf(address), true);
        if (found == null) {
            return DID_ABORT;
        }
        found.put(address, core.registers[registerA(word)]);
        return DID_ELSE;
    }

    /** The way that has the line now, or null if the core's transaction was aborted for want of room. */
    private Way access(Core core, int line, boolean toWrite) {
        Way had = core.cache.find(line);
        Way used = had != null ? had : core.cache.room(line);
        if (used == null) {
            core.abort(OVERFLOW, 0);
            return null;
        }
        if (had == null || (toWrite && had.state != MODIFIED)) {
            requestCount++;
            sendRequest(core.number, line, toWrite);
        }
        if (had == null) {
            refill(used, line);
        }
        if (toWrite) {
            makeModified(used, core.depth > 0);
        }
        if (core.depth > 0) {
            used.marks |= toWrite ? WRITE_MARK : READ_MARK;
        }
        accessCount++;
        used.latestUse = accessCount;
        return used;
    }

    private void refill(Way way, int line) {
        if (way.state == MODIFIED) {
            store.keep(way);
        }
        store.fill(way, line);
        way.state = SHARED;
    }

    private void makeModified(Way way, boolean inTransaction) {
        // An abort throws the way away: what was written before the transaction must outlive it in memory.
        if (inTransaction && way.state == MODIFIED && (way.marks & WRITE_MARK) == 0) {
            store.keep(way);
        }
        way.state = MODIFIED;
    }

    private void sendRequest(int asker, int line, boolean toWrite) {
        for (int c = 0; c < cores.length; c++) {
            Way found = c == asker ? null : cores[c].cache.find(line);
            if (found != null) {
                meetRequest(cores[c], found, toWrite);
            }
        }
    }

    private void meetRequest(Core core, Way met, boolean toWrite) {
        if ((met.marks & WRITE_MARK) != 0 || (toWrite && met.marks != 0)) {
            core.abort(CONFLICT, 0);
        }
        if (met.state == INVALID) {
            return;
        }
        if (met.state == MODIFIED) {
            store.keep(met);
        }
        met.state = toWrite ? INVALID : SHARED;
    }

    /** The memory that all cores share. */
    private static final class Store {
        private final int[] words = new int[WORDS];

        int get(int address) {
            return words[address & (WORDS - 1)];
        }

        void put(int address, int value) {
            words[address & (WORDS - 1)] = value;
        }

        void keep(Way way) {
            put(2 * way.line, way.evenWord);
            put(2 * way.line + 1, way.oddWord);
        }

        void fill(Way way, int line) {
            way.line = line;
            way.evenWord = get(2 * line);
            way.oddWord = get(2 * line + 1);
        }
    }

    /** A place of a cache where a line can be. */
    private static final class Way {
        private int state;
        private int line;
        private int marks;
        private int evenWord;
        private int oddWord;
        private int latestUse;

        int get(int address) {
            return (address & 1) == 0 ? evenWord : oddWord;
        }

        void put(int address, int value) {
            if ((address & 1) == 0) {
                evenWord = value;
            } else {
                oddWord = value;
            }
        }

        int tell(int what) {
            switch (what) {
                case 1:
                    return line;
                case 2:
                    return marks;
                case 3:
                    return evenWord;
                default:
                    return oddWord;
            }
        }
    }

    /** The ways of one core, those of a set next to each other. */
    private static final class Cache {
        private final int sets;
        private final int waysOfSet;
        private final Way[] ways;

        Cache(int sets, int waysOfSet) {
            this.sets = sets;
            this.waysOfSet = waysOfSet;
            ways = new Way[sets * waysOfSet];
            for (int w = 0; w < ways.length; w++) {
                ways[w] = new Way();
            }
        }

        /** The way that has the line, or null. */
        Way find(int line) {
            int first = firstOfSet(line);
            for (int w = first; w < first + waysOfSet; w++) {
                if (ways[w].state != INVALID && ways[w].line == line) {
                    return ways[w];
                }
            }
            return null;
        }

        /** The way that can take the line, or null if all of its set have marks. */
        Way room(int line) {
            int first = firstOfSet(line);
            Way best = null;
            for (int w = first; w < first + waysOfSet; w++) {
                Way tried = ways[w];
                if (tried.state == INVALID) {
                    return tried;
                }
                if (tried.marks == 0 && (best == null || tried.latestUse < best.latestUse)) {
                    best = tried;
                }
            }
            return best;
        }

        void dropWritten() {
            for (int w = 0; w < ways.length; w++) {
                if ((ways[w].marks & WRITE_MARK) != 0) {
                    ways[w].state = INVALID;
                }
            }
        }

        void dropMarks() {
            for (int w = 0; w < ways.length; w++) {
                ways[w].marks = 0;
            }
        }

        private int firstOfSet(int line) {
            return (line & (sets - 1)) * waysOfSet;
        }
    }

    /** A core with all that is its own; what it shares with others goes through the outer object. */
    private static final class Core {
        private final int number;
        private final Cache cache;
        private final int[] program = new int[PLACES];
        private final int[] registers = new int[REGISTERS];
        private final int[] noted = new int[REGISTERS];
        private final int[] fates = new int[FATES];
        private int pc;
        private int fallback;
        private int depth;
        private boolean stopped;

        Core(int number, Cache cache) {
            this.number = number;
            this.cache = cache;
        }

        void reckon(int word) {
            int b = registers[registerB(word)];
            int c = registers[registerC(word)];
            int a = registerA(word);
            switch (kindOf(word)) {
                case 1:
                    registers[a] = immediateOf(word);
                    break;
                case 2:
                    registers[a] = b + c;
                    break;
                case 3:
                    registers[a] = b - c;
                    break;
                case 4:
                    registers[a] = b & c;
                    break;
                case 12:
                    registers[a] = depth;
                    break;
                default:
                    registers[a] = number;
                    break;
            }
        }

        int addressOf(int word) {
            return registers[registerB(word)] + immediateOf(word);
        }

        void branch(int word) {
            int a = registers[registerA(word)];
            boolean taken = kindOf(word) == 7 ? a == 0 : a < registers[registerB(word)];
            if (taken) {
                pc = place(pc + immediateOf(word));
            }
        }

        int begin(int immediate) {
            if (depth == DEEPEST) {
                return abort(NESTING, 0);
            }
            if (depth == 0) {
                System.arraycopy(registers, 0, noted, 0, REGISTERS);
                fallback = place(pc + immediate);
            }
            depth++;
            return DID_ELSE;
        }

        int end() {
            depth--;
            if (depth > 0) {
                return DID_ELSE;
            }
            cache.dropMarks();
            fates[COMMIT]++;
            return DID_COMMIT;
        }

        int giveUp(int immediate) {
            if (depth == 0) {
                return DID_ELSE;
            }
            return abort(EXPLICIT, 8 * (immediate & 255));
        }

        int fault(int before) {
            if (depth > 0) {
                return abort(FAULT, 0);
            }
            stopped = true;
            pc = before;
            return DID_STOP;
        }

        int abort(int cause, int more) {
            cache.dropWritten();
            cache.dropMarks();
            System.arraycopy(noted, 0, registers, 0, REGISTERS);
            registers[CAUSE_REGISTER] = cause + more;
            pc = fallback;
            depth = 0;
            fates[cause]++;
            return DID_ABORT;
        }
    }
}
