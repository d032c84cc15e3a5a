/** Promises 3, 4 and 11: poke, peek and memory. */
public final class PokePeekMemoryTest {
    private static final Check check = new Check();

    public static void main(String[] args) {
        everyAddress();
        addressesOfSixBits();
        pokeMeetsShared();
        pokeMeetsModified();
        pokeMeetsReadMark();
        pokeMeetsWriteMark();
        pokeMeetsAllCores();
        pokeLeavesOtherLines();
        pokeUndoesModifiedThatWasOnlyRead();
        peekOfModified();
        peekOfWritten();
        peekOfModifiedWithReadMark();
        peekDisturbsNothing();
        memoryIsBehindTheCaches();
        check.finish();
    }

    private static void everyAddress() {
        TransactionCores x = new TransactionCores(1, 1, 1);
        for (int address = 0; address < 64; address++) {
            x.poke(address, 1000 - 31 * address);
        }
        for (int address = 0; address < 64; address++) {
            check.same("peek " + address, x.peek(address), 1000 - 31 * address);
            check.same("memory " + address, x.memory(address), 1000 - 31 * address);
        }
    }

    private static void addressesOfSixBits() {
        TransactionCores x = new TransactionCores(1, 1, 1);
        x.poke(64 + 7, 70);
        x.poke(-1, Integer.MIN_VALUE);
        x.poke(Integer.MIN_VALUE, Integer.MAX_VALUE);
        check.same("71 is 7", x.memory(7), 70);
        check.same("7 from far", x.memory(7 - 640), 70);
        check.same("7 from far", x.peek(7 + 6400), 70);
        check.same("-1 is 63", x.memory(63), Integer.MIN_VALUE);
        check.same("-65 is 63", x.peek(-65), Integer.MIN_VALUE);
        check.same("the least is 0", x.memory(0), Integer.MAX_VALUE);
        check.same("the greatest is 63", x.memory(Integer.MAX_VALUE), Integer.MIN_VALUE);
        Words.does(x, 0, Words.set(1, 70), Words.store(1, 1, 60));
        check.same("130 is 2", x.peek(2), 70);
    }

    private static void pokeMeetsShared() {
        TransactionCores x = new TransactionCores(2, 1, 1);
        Words.does(x, 0, Words.load(1, 0, 6));
        Words.does(x, 1, Words.load(1, 0, 7));
        x.poke(6, 5);
        check.same("core 0 has lost it", x.way(0, 0, 0, 0), 0);
        check.same("core 1 has lost it", x.way(1, 0, 0, 0), 0);
        check.same("memory", x.memory(6), 5);
    }

    private static void pokeMeetsModified() {
        TransactionCores x = new TransactionCores(1, 1, 1);
        Words.does(x, 0, Words.set(1, 11), Words.store(1, 0, 6), Words.set(1, 12), Words.store(1, 0, 7));
        check.same("not yet in memory", x.memory(7), 0);
        x.poke(6, 5);
        check.same("the word", x.memory(6), 5);
        check.same("the other word went to memory", x.memory(7), 12);
        check.same("invalid", x.way(0, 0, 0, 0), 0);
        check.same("peek", x.peek(6), 5);
        check.same("peek", x.peek(7), 12);
    }

    private static void pokeMeetsReadMark() {
        TransactionCores x = new TransactionCores(1, 1, 1);
        Words.does(x, 0, Words.begin(8), Words.load(1, 0, 6));
        x.poke(7, 5);
        check.same("a conflict", x.fate(0, 1), 1);
        check.same("the cause", x.register(0, 7), 1);
        check.same("the fallback", x.register(0, 8), 9);
        check.same("the depth", x.register(0, 9), 0);
        check.same("invalid", x.way(0, 0, 0, 0), 0);
    }

    private static void pokeMeetsWriteMark() {
        TransactionCores x = new TransactionCores(1, 1, 1);
        Words.does(x, 0, Words.begin(8), Words.set(1, 77), Words.store(1, 0, 6));
        x.poke(7, 5);
        check.same("a conflict", x.fate(0, 1), 1);
        check.same("what was written is gone", x.memory(6), 0);
        check.same("what was poked is there", x.memory(7), 5);
        check.same("the register is as it was", x.register(0, 1), 0);
    }

    private static void pokeMeetsAllCores() {
        TransactionCores x = new TransactionCores(3, 2, 2);
        for (int c = 0; c < 3; c++) {
            Words.does(x, c, Words.begin(c), Words.load(1, 0, 20));
        }
        x.poke(21, 5);
        for (int c = 0; c < 3; c++) {
            check.same("a conflict", x.fate(c, 1), 1);
            check.same("the fallback", x.register(c, 8), 1 + c);
            check.same("invalid", x.way(c, 0, 0, 0), 0);
        }
        check.same("only cores' requests count", x.requests(), 3);
    }

    private static void pokeLeavesOtherLines() {
        TransactionCores x = new TransactionCores(1, 1, 3);
        Words.does(x, 0, Words.begin(8), Words.load(1, 0, 6), Words.load(1, 0, 8));
        x.poke(5, 1);
        x.poke(10, 1);
        check.same("no abort", x.register(0, 9), 1);
        check.same("no way touched", x.way(0, 0, 0, 2), 1);
        check.same("no way touched", x.way(0, 0, 1, 2), 1);
    }

    private static void pokeUndoesModifiedThatWasOnlyRead() {
        TransactionCores x = new TransactionCores(1, 1, 1);
        Words.does(x, 0, Words.set(1, 33), Words.store(1, 0, 6), Words.begin(0), Words.load(2, 0, 6));
        x.poke(7, 5);
        check.same("a conflict", x.fate(0, 1), 1);
        check.same("what stood before the transaction went to memory", x.memory(6), 33);
        check.same("invalid", x.way(0, 0, 0, 0), 0);
    }

    private static void peekOfModified() {
        TransactionCores x = new TransactionCores(3, 1, 1);
        Words.does(x, 2, Words.set(1, 11), Words.store(1, 0, 6), Words.set(1, 12), Words.store(1, 0, 7));
        check.same("even word", x.peek(6), 11);
        check.same("odd word", x.peek(7), 12);
        check.same("memory", x.memory(6), 0);
        check.same("memory", x.memory(7), 0);
        check.same("another line", x.peek(8), 0);
    }

    private static void peekOfWritten() {
        TransactionCores x = new TransactionCores(1, 1, 1);
        x.poke(6, 4);
        Words.does(x, 0, Words.begin(0), Words.set(1, 11), Words.store(1, 0, 6), Words.END);
        TransactionCores y = new TransactionCores(1, 1, 1);
        y.poke(6, 4);
        Words.does(y, 0, Words.begin(0), Words.set(1, 11), Words.store(1, 0, 6));
        check.same("committed", x.peek(6), 11);
        check.same("not committed", y.peek(6), 4);
        check.same("committed, memory", x.memory(6), 4);
    }

    private static void peekOfModifiedWithReadMark() {
        TransactionCores x = new TransactionCores(1, 1, 1);
        Words.does(x, 0, Words.set(1, 11), Words.store(1, 0, 6), Words.begin(0), Words.load(2, 0, 6));
        check.same("marks", x.way(0, 0, 0, 2), 1);
        check.same("a read mark hides nothing", x.peek(6), 11);
        Words.put(x, 0, 0, 0, 0, 0, Words.store(0, 0, 7));
        x.step(0);
        check.same("marks", x.way(0, 0, 0, 2), 3);
        check.same("what was there before the transaction", x.peek(6), 11);
        check.same("what was there before the transaction", x.peek(7), 0);
    }

    private static void peekDisturbsNothing() {
        TransactionCores x = new TransactionCores(1, 1, 2);
        Words.does(x, 0, Words.load(1, 0, 0), Words.load(1, 0, 2), Words.begin(0), Words.store(1, 0, 2));
        x.peek(0);
        x.peek(2);
        x.peek(4);
        check.same("requests", x.requests(), 3);
        check.same("depth", x.register(0, 9), 1);
        check.same("state", x.way(0, 0, 0, 0), 1);
        check.same("state", x.way(0, 0, 1, 0), 2);
        Words.put(x, 0, 0, 0, 0, 0, Words.load(1, 0, 4));
        x.step(0);
        check.same("room was made where it was due", x.way(0, 0, 0, 1), 2);
    }

    private static void memoryIsBehindTheCaches() {
        TransactionCores x = new TransactionCores(2, 1, 1);
        Words.does(x, 0, Words.set(1, 11), Words.store(1, 0, 6));
        check.same("not yet", x.memory(6), 0);
        Words.does(x, 1, Words.load(2, 0, 6));
        check.same("another core's load brings it", x.memory(6), 11);
        Words.put(x, 0, 0, 0, Words.store(1, 0, 7), Words.load(1, 0, 2));
        x.step(0);
        check.same("not yet", x.memory(7), 0);
        x.step(0);
        check.same("making room brings it", x.memory(7), 11);
    }
}
