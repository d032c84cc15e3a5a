/** Promise 5, under "Terms": accesses, their room, their requests and their marks. */
public final class AccessTest {
    private static final Check check = new Check();

    public static void main(String[] args) {
        loadFills();
        storeFillsAndModifies();
        storeToSharedAsks();
        firstInvalidWayMakesRoom();
        earliestUseMakesRoom();
        everyUseCounts();
        othersDoNotUse();
        modifiedGoesToMemoryForRoom();
        markedWaysMakeNoRoom();
        readMeetsModified();
        writeMeetsModified();
        readMeetsReadMark();
        readMeetsModifiedWithReadMark();
        invalidWayIsFilledAnew();
        writtenInATransactionFirstGoesToMemory();
        marksOfAccesses();
        check.finish();
    }

    private static void way(TransactionCores x, int core, int set, int way, int... due) {
        for (int what = 0; what < due.length; what++) {
            check.same("core " + core + " way " + set + "," + way + " what " + what,
                    x.way(core, set, way, what), due[what]);
        }
    }

    private static void loadFills() {
        TransactionCores x = new TransactionCores(1, 2, 1);
        x.poke(10, 101);
        x.poke(11, 102);
        Words.does(x, 0, Words.load(1, 0, 11), Words.load(2, 0, 10));
        way(x, 0, 1, 0, 1, 5, 0, 101, 102);
        way(x, 0, 0, 0, 0, -1, -1, -1, -1);
        check.same("the second load had it", x.requests(), 1);
        check.same("loaded", x.register(0, 1), 102);
        check.same("loaded", x.register(0, 2), 101);
    }

    private static void storeFillsAndModifies() {
        TransactionCores x = new TransactionCores(1, 2, 1);
        x.poke(10, 101);
        x.poke(11, 102);
        Words.does(x, 0, Words.set(1, 7), Words.store(1, 0, 11), Words.store(1, 0, 10));
        way(x, 0, 1, 0, 2, 5, 0, 7, 7);
        check.same("the second store had it modified", x.requests(), 1);
        check.same("memory", x.memory(10), 101);
    }

    private static void storeToSharedAsks() {
        TransactionCores x = new TransactionCores(2, 1, 1);
        Words.does(x, 0, Words.load(1, 0, 0));
        Words.does(x, 1, Words.load(1, 0, 0));
        Words.put(x, 0, 0, Words.store(1, 0, 1));
        x.step(0);
        check.same("three requests", x.requests(), 3);
        way(x, 0, 0, 0, 2, 0, 0);
        way(x, 1, 0, 0, 0, -1, -1);
    }

    private static void firstInvalidWayMakesRoom() {
        TransactionCores x = new TransactionCores(1, 1, 3);
        Words.does(x, 0, Words.load(1, 0, 0), Words.load(1, 0, 2), Words.load(1, 0, 4));
        x.poke(4, 0);
        x.poke(2, 0);
        Words.put(x, 0, 0, 0, 0, Words.load(1, 0, 6), Words.load(1, 0, 8));
        x.step(0);
        way(x, 0, 0, 0, 1, 0);
        way(x, 0, 0, 1, 1, 3);
        way(x, 0, 0, 2, 0, -1);
        x.step(0);
        way(x, 0, 0, 2, 1, 4);
    }

    private static void earliestUseMakesRoom() {
        TransactionCores x = new TransactionCores(1, 1, 3);
        Words.does(x, 0, Words.load(1, 0, 0), Words.load(1, 0, 2), Words.load(1, 0, 4), Words.load(1, 0, 0),
                Words.load(1, 0, 6));
        way(x, 0, 0, 0, 1, 0);
        way(x, 0, 0, 1, 1, 3);
        way(x, 0, 0, 2, 1, 2);
    }

    private static void everyUseCounts() {
        TransactionCores x = new TransactionCores(1, 1, 2);
        Words.does(x, 0, Words.store(1, 0, 0), Words.load(1, 0, 2), Words.store(1, 0, 1), Words.load(1, 0, 4),
                Words.load(1, 0, 0), Words.load(1, 0, 6));
        way(x, 0, 0, 0, 2, 0);
        way(x, 0, 0, 1, 1, 3);
    }

    /** Use is by a way's own core: a request of another one that meets it is none. */
    private static void othersDoNotUse() {
        TransactionCores x = new TransactionCores(2, 1, 2);
        Words.does(x, 0, Words.load(1, 0, 0), Words.load(1, 0, 2));
        Words.does(x, 1, Words.load(1, 0, 0));
        Words.put(x, 0, 0, 0, Words.load(1, 0, 4));
        x.step(0);
        way(x, 0, 0, 0, 1, 2);
        way(x, 0, 0, 1, 1, 1);
    }

    private static void modifiedGoesToMemoryForRoom() {
        TransactionCores x = new TransactionCores(1, 1, 1);
        Words.does(x, 0, Words.set(1, 8), Words.store(1, 0, 0), Words.set(1, 9), Words.store(1, 0, 1));
        check.same("not yet", x.memory(0), 0);
        Words.put(x, 0, 0, 0, 0, 0, Words.store(0, 0, 2));
        x.step(0);
        check.same("memory", x.memory(0), 8);
        check.same("memory", x.memory(1), 9);
        way(x, 0, 0, 0, 2, 1, 0, 0, 0);
    }

    private static void markedWaysMakeNoRoom() {
        TransactionCores x = new TransactionCores(1, 1, 3);
        Words.does(x, 0, Words.load(1, 0, 0), Words.load(1, 0, 2), Words.load(1, 0, 4), Words.begin(8),
                Words.load(1, 0, 0), Words.store(1, 0, 2), Words.load(1, 0, 4), Words.END,
                Words.load(1, 0, 2), Words.begin(5), Words.load(1, 0, 0), Words.load(1, 0, 6));
        way(x, 0, 0, 0, 1, 0, 1);
        way(x, 0, 0, 1, 2, 1, 0);
        way(x, 0, 0, 2, 1, 3, 1);
        Words.put(x, 0, 0, 0, 0, 0, 0, 0, 0, 0, 0, 0, 0, 0, Words.store(0, 0, 8), Words.load(1, 0, 10));
        check.same("room by line 1, though used later than line 0", x.step(0), 4);
        way(x, 0, 0, 1, 2, 4, 2);
        int before = x.requests();
        check.same("no room", x.step(0), 2);
        check.same("no request without room", x.requests(), before);
        check.same("overflow", x.fate(0, 2), 1);
        way(x, 0, 0, 0, 1, 0, 0);
        way(x, 0, 0, 1, 0, -1, -1);
        way(x, 0, 0, 2, 1, 3, 0);
    }

    private static void readMeetsModified() {
        TransactionCores x = new TransactionCores(2, 1, 1);
        Words.does(x, 0, Words.set(1, 8), Words.store(1, 0, 1));
        Words.does(x, 1, Words.load(2, 0, 1));
        check.same("memory", x.memory(1), 8);
        check.same("loaded", x.register(1, 2), 8);
        way(x, 0, 0, 0, 1, 0, 0, 0, 8);
        way(x, 1, 0, 0, 1, 0, 0, 0, 8);
    }

    private static void writeMeetsModified() {
        TransactionCores x = new TransactionCores(3, 1, 1);
        Words.does(x, 2, Words.set(1, 8), Words.store(1, 0, 1));
        Words.does(x, 1, Words.set(1, 9), Words.store(1, 0, 0));
        check.same("memory", x.memory(1), 8);
        check.same("memory", x.memory(0), 0);
        way(x, 2, 0, 0, 0, -1, -1, -1, -1);
        way(x, 1, 0, 0, 2, 0, 0, 9, 8);
    }

    private static void readMeetsReadMark() {
        TransactionCores x = new TransactionCores(2, 1, 1);
        Words.does(x, 0, Words.begin(5), Words.load(1, 0, 1));
        Words.does(x, 1, Words.begin(5), Words.load(1, 0, 0));
        way(x, 0, 0, 0, 1, 0, 1);
        way(x, 1, 0, 0, 1, 0, 1);
        check.same("no abort", x.register(0, 9), 1);
    }

    /** A way that was modified before the transaction keeps its read mark when it becomes shared. */
    private static void readMeetsModifiedWithReadMark() {
        TransactionCores x = new TransactionCores(2, 1, 1);
        Words.does(x, 0, Words.set(1, 8), Words.store(1, 0, 1), Words.begin(5), Words.load(1, 0, 1));
        way(x, 0, 0, 0, 2, 0, 1, 0, 8);
        Words.does(x, 1, Words.load(1, 0, 0));
        way(x, 0, 0, 0, 1, 0, 1, 0, 8);
        check.same("memory", x.memory(1), 8);
        check.same("no abort", x.register(0, 9), 1);
        Words.put(x, 1, 0, Words.store(1, 0, 0));
        x.step(1);
        check.same("a write aborts it", x.fate(0, 1), 1);
        way(x, 0, 0, 0, 0, -1, -1, -1, -1);
    }

    private static void invalidWayIsFilledAnew() {
        TransactionCores x = new TransactionCores(1, 1, 1);
        Words.does(x, 0, Words.set(1, 8), Words.store(1, 0, 0));
        x.poke(0, 3);
        x.poke(1, 4);
        Words.put(x, 0, 0, 0, Words.load(1, 0, 0), Words.load(2, 0, 2));
        x.step(0);
        check.same("loaded", x.register(0, 1), 3);
        way(x, 0, 0, 0, 1, 0, 0, 3, 4);
        x.step(0);
        check.same("what was invalid never goes to memory", x.memory(0), 3);
    }

    private static void writtenInATransactionFirstGoesToMemory() {
        TransactionCores x = new TransactionCores(1, 1, 1);
        Words.does(x, 0, Words.set(1, 8), Words.store(1, 0, 0), Words.begin(5), Words.set(1, 9),
                Words.store(1, 0, 0));
        check.same("what was there before", x.memory(0), 8);
        check.same("no second request", x.requests(), 1);
        way(x, 0, 0, 0, 2, 0, 2, 9, 0);
        Words.put(x, 0, 0, 0, 0, 0, 0, Words.store(1, 0, 1), Words.abort(0));
        x.step(0);
        check.same("only the first time", x.memory(0), 8);
        way(x, 0, 0, 0, 2, 0, 2, 9, 9);
        x.step(0);
        check.same("peek", x.peek(0), 8);
        check.same("peek", x.peek(1), 0);
        way(x, 0, 0, 0, 0);
    }

    private static void marksOfAccesses() {
        TransactionCores x = new TransactionCores(1, 1, 3);
        Words.does(x, 0, Words.begin(5), Words.load(1, 0, 0), Words.store(1, 0, 2), Words.load(1, 0, 4),
                Words.store(1, 0, 4));
        way(x, 0, 0, 0, 1, 0, 1);
        way(x, 0, 0, 1, 2, 1, 2);
        way(x, 0, 0, 2, 2, 2, 3);
        Words.put(x, 0, 0, 0, 0, 0, 0, Words.load(1, 0, 2), Words.END, Words.load(1, 0, 0),
                Words.store(1, 0, 4));
        x.step(0);
        way(x, 0, 0, 1, 2, 1, 3);
        x.step(0);
        way(x, 0, 0, 0, 1, 0, 0);
        way(x, 0, 0, 1, 2, 1, 0);
        way(x, 0, 0, 2, 2, 2, 0);
        Words.steps(x, 0, 2);
        way(x, 0, 0, 0, 1, 0, 0);
        way(x, 0, 0, 2, 2, 2, 0);
    }
}
