/** Promise 3: words from outside. */
public final class PokeTest {
    private static final Check check = new Check();
    private static final String MEETS = "a request to write the line meets all cores";

    public static void main(String[] args) {
        check.sentence("then the word of memory is this", PokeTest::anyValue);
        check.sentence(MEETS, PokeTest::meetsAllCores);
        check.sentence(MEETS + " (one that has it shared)", PokeTest::meetsShared);
        check.sentence(MEETS + " (one that has it modified)", PokeTest::meetsModified);
        check.sentence(MEETS + " (a read mark)", PokeTest::meetsReadMark);
        check.sentence(MEETS + " (a read mark on what was modified before)", PokeTest::meetsModifiedWithReadMark);
        check.sentence(MEETS + " (a write mark)", PokeTest::meetsWriteMark);
        check.sentence(MEETS + " (no other line)", PokeTest::leavesOtherLines);
        check.sentence(MEETS + " (nobody has it)", PokeTest::meetsNobody);
        check.sentence("How many requests there were of cores (from outside none)", PokeTest::isNotCounted);
        check.finish();
    }

    private static void anyValue() {
        TransactionCores x = new TransactionCores(1, 1, 1);
        for (int value : new int[] {1, 0, -1, Integer.MAX_VALUE, Integer.MIN_VALUE, 1 << 21}) {
            x.poke(5, value);
            check.same("memory", x.memory(5), value);
            check.same("peek", x.peek(5), value);
            check.same("the other word", x.memory(4), 0);
        }
    }

    private static void meetsAllCores() {
        for (int n = 1; n <= 3; n++) {
            TransactionCores x = new TransactionCores(n, 2, 2);
            for (int c = 0; c < n; c++) {
                Words.does(x, c, Words.begin(c), Words.load(1, 0, 20));
            }
            x.poke(21, 5);
            for (int c = 0; c < n; c++) {
                check.same("a conflict of core " + c + " of " + n, x.fate(c, 1), 1);
                check.same("the fallback", x.register(c, 8), 1 + c);
                check.same("invalid", x.way(c, 0, 0, 0), 0);
            }
        }
    }

    private static void meetsShared() {
        TransactionCores x = new TransactionCores(3, 1, 1);
        for (int c = 0; c < 3; c++) {
            Words.does(x, c, Words.load(1, 0, 6 + c % 2));
        }
        x.poke(6, 5);
        for (int c = 0; c < 3; c++) {
            check.same("core " + c + " has lost it", x.way(c, 0, 0, 0), 0);
        }
        check.same("memory", x.memory(6), 5);
    }

    private static void meetsModified() {
        for (int c = 0; c < 3; c++) {
            TransactionCores x = new TransactionCores(3, 1, 1);
            Words.does(x, c, Words.set(1, 11), Words.store(1, 0, 6), Words.set(1, 12), Words.store(1, 0, 7));
            check.same("not yet in memory", x.memory(7), 0);
            x.poke(6, 5);
            check.same("the word", x.memory(6), 5);
            check.same("the other word went to memory", x.memory(7), 12);
            check.same("invalid", x.way(c, 0, 0, 0), 0);
            check.same("peek", x.peek(6), 5);
            check.same("peek", x.peek(7), 12);
        }
    }

    private static void aborted(TransactionCores x) {
        check.same("a conflict", x.fate(0, 1), 1);
        check.same("the cause", x.register(0, 7), 1);
        check.same("the depth", x.register(0, 9), 0);
        check.same("invalid", x.way(0, 0, 0, 0), 0);
    }

    private static void meetsReadMark() {
        TransactionCores x = new TransactionCores(1, 1, 1);
        Words.does(x, 0, Words.begin(8), Words.load(1, 0, 6));
        x.poke(7, 5);
        aborted(x);
        check.same("the fallback", x.register(0, 8), 9);
    }

    private static void meetsModifiedWithReadMark() {
        TransactionCores x = new TransactionCores(1, 1, 1);
        Words.does(x, 0, Words.set(1, 33), Words.store(1, 0, 6), Words.begin(0), Words.load(2, 0, 6));
        x.poke(7, 5);
        aborted(x);
        check.same("what stood before the transaction went to memory", x.memory(6), 33);
        check.same("what was poked is there", x.memory(7), 5);
    }

    private static void meetsWriteMark() {
        TransactionCores x = new TransactionCores(1, 1, 1);
        Words.does(x, 0, Words.begin(8), Words.set(1, 77), Words.store(1, 0, 6));
        x.poke(7, 5);
        aborted(x);
        check.same("what was written is gone", x.memory(6), 0);
        check.same("what was poked is there", x.memory(7), 5);
        check.same("the register is as it was", x.register(0, 1), 0);
    }

    private static void leavesOtherLines() {
        TransactionCores x = new TransactionCores(1, 1, 3);
        Words.does(x, 0, Words.begin(8), Words.load(1, 0, 6), Words.store(1, 0, 8), Words.load(1, 0, 63));
        x.poke(5, 1);
        x.poke(10, 1);
        x.poke(61, 1);
        x.poke(64, 1);
        check.same("no abort", x.register(0, 9), 1);
        check.same("marks", x.way(0, 0, 0, 2), 1);
        check.same("marks", x.way(0, 0, 1, 2), 2);
        check.same("marks", x.way(0, 0, 2, 2), 1);
    }

    private static void meetsNobody() {
        TransactionCores x = new TransactionCores(1, 1, 1);
        x.poke(63, 4);
        check.same("memory", x.memory(63), 4);
        check.same("no way has it", x.way(0, 0, 0, 0), 0);
    }

    private static void isNotCounted() {
        TransactionCores x = new TransactionCores(2, 1, 1);
        x.poke(6, 1);
        check.same("nobody has the line", x.requests(), 0);
        Words.does(x, 0, Words.load(1, 0, 6));
        Words.does(x, 1, Words.load(1, 0, 6));
        x.poke(6, 2);
        check.same("two cores have the line", x.requests(), 2);
    }
}
