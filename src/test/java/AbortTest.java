/** Promise 5, under "Terms": aborts by every cause, and commits. */
public final class AbortTest {
    private static final Check check = new Check();

    public static void main(String[] args) {
        registersAndFallback();
        explicitCodes();
        nesting();
        innerBeginsNoteNothing();
        conflictByRead();
        conflictByWrite();
        conflictDropsEveryWrittenWay();
        noConflictWithoutMarks();
        requestWithoutNeedMeetsNobody();
        overflowOfLoadAndStore();
        commitIsSeenAtOnce();
        secondTransactionNotesAnew();
        twoVictims();
        check.finish();
    }

    private static void registersAndFallback() {
        TransactionCores x = new TransactionCores(1, 1, 2);
        for (int r = 0; r < 8; r++) {
            x.code(0, r, Words.set(r, 10 + r));
        }
        for (int r = 0; r < 6; r++) {
            x.code(0, 9 + r, Words.set(r, 50 + r));
        }
        x.code(0, 8, Words.begin(-11));
        x.code(0, 15, 15);
        x.run(0, 15);
        check.same("in the transaction", x.register(0, 5), 55);
        check.same("the fault", x.step(0), 2);
        for (int r = 0; r < 7; r++) {
            check.same("register " + r, x.register(0, r), 10 + r);
        }
        check.same("register 7", x.register(0, 7), 5);
        check.same("fallback 9 - 11 modulo 16", x.register(0, 8), 14);
        check.same("depth", x.register(0, 9), 0);
    }

    private static void explicitCodes() {
        int[][] rows = {{0, 4}, {1, 12}, {255, 2044}, {256, 4}, {-1, 2044}, {300, 4 + 8 * 44}, {-256, 4}};
        for (int[] row : rows) {
            TransactionCores x = new TransactionCores(1, 1, 1);
            Words.put(x, 0, Words.begin(5), Words.begin(6), Words.abort(row[0]));
            x.run(0, 2);
            check.same("step", x.step(0), 2);
            check.same("register 7", x.register(0, 7), row[1]);
            check.same("PC", x.register(0, 8), 6);
            check.same("counted", x.fate(0, 4), 1);
        }
    }

    private static void nesting() {
        TransactionCores x = new TransactionCores(1, 1, 1);
        Words.put(x, 0, Words.begin(10), Words.begin(7), Words.begin(5), Words.begin(3));
        for (int k = 0; k < 3; k++) {
            check.same("begin", x.step(0), 4);
        }
        check.same("depth", x.register(0, 9), 3);
        check.same("a fourth", x.step(0), 2);
        check.same("the cause", x.register(0, 7), 3);
        check.same("depth", x.register(0, 9), 0);
        check.same("the outermost's fallback", x.register(0, 8), 11);
        check.same("counted", x.fate(0, 3), 1);
    }

    private static void innerBeginsNoteNothing() {
        TransactionCores x = new TransactionCores(1, 1, 1);
        Words.does(x, 0, Words.set(1, 1), Words.begin(9), Words.set(1, 2), Words.begin(0), Words.set(1, 3),
                Words.END, Words.abort(0));
        check.same("as at the outermost", x.register(0, 1), 1);
        check.same("the outermost's fallback", x.register(0, 8), 11);
        check.same("no commit", x.fate(0, 0), 0);
    }

    private static void conflictByRead() {
        TransactionCores x = new TransactionCores(2, 1, 1);
        x.poke(0, 5);
        Words.does(x, 0, Words.begin(7), Words.set(1, 6), Words.store(1, 0, 0));
        Words.does(x, 1, Words.load(1, 0, 0));
        check.same("what is not committed is not seen", x.register(1, 1), 5);
        check.same("conflict", x.fate(0, 1), 1);
        check.same("the cause", x.register(0, 7), 1);
        check.same("the fallback", x.register(0, 8), 8);
        check.same("invalid", x.way(0, 0, 0, 0), 0);
        check.same("memory", x.memory(0), 5);
        check.same("it goes on from there and waits", x.step(0), 1);
    }

    private static void conflictByWrite() {
        TransactionCores x = new TransactionCores(2, 1, 1);
        Words.does(x, 0, Words.begin(7), Words.load(1, 0, 0));
        Words.does(x, 1, Words.begin(7), Words.set(1, 6), Words.store(1, 0, 1));
        check.same("the one met is aborted", x.fate(0, 1), 1);
        check.same("the one that asks is not", x.fate(1, 1), 0);
        check.same("the one that asks is not", x.register(1, 9), 1);
        check.same("invalid", x.way(0, 0, 0, 0), 0);
        check.same("written", x.way(1, 0, 0, 2), 2);
    }

    private static void conflictDropsEveryWrittenWay() {
        TransactionCores x = new TransactionCores(2, 2, 2);
        Words.does(x, 0, Words.set(1, 6), Words.store(1, 0, 6), Words.begin(5), Words.store(1, 0, 0),
                Words.store(1, 0, 2), Words.load(2, 0, 4), Words.load(2, 0, 6));
        Words.does(x, 1, Words.load(1, 0, 2));
        check.same("written", x.way(0, 0, 0, 0), 0);
        check.same("written", x.way(0, 1, 1, 0), 0);
        check.same("only read", x.way(0, 0, 1, 0), 1);
        check.same("only read, mark gone", x.way(0, 0, 1, 2), 0);
        check.same("modified before and only read", x.way(0, 1, 0, 0), 2);
        check.same("mark gone", x.way(0, 1, 0, 2), 0);
        check.same("nothing of it is seen", x.peek(0), 0);
        check.same("nothing of it is seen", x.peek(2), 0);
        check.same("what was before is", x.peek(6), 6);
    }

    private static void noConflictWithoutMarks() {
        TransactionCores x = new TransactionCores(2, 1, 2);
        Words.does(x, 0, Words.load(1, 0, 0), Words.begin(5), Words.load(1, 0, 2));
        Words.does(x, 1, Words.store(1, 0, 0));
        check.same("the way is gone", x.way(0, 0, 0, 0), 0);
        check.same("the transaction goes on", x.register(0, 9), 1);
        check.same("no conflict", x.fate(0, 1), 0);
    }

    private static void requestWithoutNeedMeetsNobody() {
        TransactionCores x = new TransactionCores(2, 1, 1);
        Words.does(x, 0, Words.load(1, 0, 0));
        Words.does(x, 1, Words.begin(5), Words.load(1, 0, 0));
        Words.put(x, 0, 0, Words.load(1, 0, 1));
        x.step(0);
        check.same("a load that has the line asks nobody", x.requests(), 2);
        check.same("no abort", x.register(1, 9), 1);
    }

    private static void overflowOfLoadAndStore() {
        for (int word : new int[] {Words.load(1, 0, 4), Words.store(1, 0, 4)}) {
            TransactionCores x = new TransactionCores(2, 1, 2);
            x.poke(4, 44);
            Words.does(x, 1, Words.load(1, 0, 4));
            Words.does(x, 0, Words.set(1, 3), Words.begin(6), Words.load(2, 0, 0), Words.store(1, 0, 2));
            x.code(0, 4, word);
            int before = x.requests();
            check.same("overflow", x.step(0), 2);
            check.same("counted", x.fate(0, 2), 1);
            check.same("the cause", x.register(0, 7), 2);
            check.same("not loaded", x.register(0, 1), 3);
            check.same("not stored", x.peek(4), 44);
            check.same("the fallback", x.register(0, 8), 8);
            check.same("no request", x.requests(), before);
            check.same("others keep theirs", x.way(1, 0, 0, 0), 1);
            check.same("read way stays", x.way(0, 0, 0, 0), 1);
            check.same("written way is gone", x.way(0, 0, 1, 0), 0);
        }
    }

    private static void commitIsSeenAtOnce() {
        TransactionCores x = new TransactionCores(2, 2, 1);
        Words.does(x, 0, Words.begin(7), Words.set(1, 6), Words.store(1, 0, 0), Words.store(1, 0, 2));
        check.same("before", x.peek(0) + x.peek(2), 0);
        Words.put(x, 0, 0, 0, 0, 0, Words.END);
        check.same("commits", x.step(0), 3);
        check.same("after", x.peek(0), 6);
        check.same("after", x.peek(2), 6);
        check.same("memory", x.memory(0), 0);
        check.same("registers stay", x.register(0, 1), 6);
        check.same("register 7 stays", x.register(0, 7), 0);
        Words.does(x, 1, Words.load(1, 0, 0), Words.load(2, 0, 2));
        check.same("loaded", x.register(1, 1), 6);
        check.same("loaded", x.register(1, 2), 6);
        check.same("no conflict any more", x.fate(0, 1), 0);
    }

    private static void secondTransactionNotesAnew() {
        TransactionCores x = new TransactionCores(1, 1, 1);
        Words.does(x, 0, Words.begin(7), Words.set(1, 6), Words.END, Words.begin(3), Words.set(1, 7),
                Words.abort(1));
        check.same("as at its own begin", x.register(0, 1), 6);
        check.same("its own fallback", x.register(0, 8), 7);
        check.same("commits", x.fate(0, 0), 1);
        check.same("aborts", x.fate(0, 4), 1);
    }

    private static void twoVictims() {
        TransactionCores x = new TransactionCores(3, 1, 1);
        Words.does(x, 0, Words.begin(7), Words.load(1, 0, 0));
        Words.does(x, 2, Words.begin(8), Words.load(1, 0, 0));
        Words.does(x, 1, Words.store(1, 0, 0));
        check.same("core 0", x.fate(0, 1), 1);
        check.same("core 1", x.fate(1, 1), 0);
        check.same("core 2", x.fate(2, 1), 1);
    }
}
