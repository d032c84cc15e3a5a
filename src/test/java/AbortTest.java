/** "Terms", ABORT of a transaction, and the words that begin, end and abort one. */
public final class AbortTest {
    private static final Check check = new Check();
    private static final int[] EVERY_CAUSE = {1, 2, 3, 4, 5};
    private static final String LOWEST_EIGHT = "register 7 is 4 and 8 times the immediate's lowest eight bits";

    public static void main(String[] args) {
        check.sentence("ways with a write mark are invalid, all marks are gone", AbortTest::writtenWaysAreInvalid);
        check.sentence("the registers are as they were at the outermost BEGIN, but register 7 is the cause",
                AbortTest::registersAndCause);
        check.sentence("at the outermost BEGIN (inner ones note nothing)", AbortTest::innerBeginsNoteNothing);
        check.sentence("at the outermost BEGIN (of the latest transaction)", AbortTest::secondTransactionNotesAnew);
        check.sentence("the PC is the FALLBACK of the outermost BEGIN", AbortTest::fallbackOfTheOutermost);
        check.sentence("the depth is 0; it is counted", AbortTest::depthAndCount);
        check.sentence("BEGIN: with depth 3 the transaction is aborted (NESTING)", AbortTest::nesting);
        check.sentence("END: with depth 0 a FAULT", AbortTest::endWithoutATransaction);
        check.sentence("with depth 1 the transaction COMMITS: all marks are gone, it is counted",
                AbortTest::commits);
        check.sentence("with depth 1 the transaction COMMITS (with more it does not)", AbortTest::innerEnds);
        check.sentence("what commits comes to be seen at once", AbortTest::commitIsSeenAtOnce);
        check.sentence("ABORT: with depth 0 nothing", AbortTest::abortWithoutATransaction);
        check.sentence(LOWEST_EIGHT, AbortTest::explicitCodes);
        check.sentence(LOWEST_EIGHT + " (and of nothing else)", AbortTest::explicitWithOtherBits);
        check.sentence("Others are a FAULT: it aborts the transaction", AbortTest::faultsInATransaction);
        check.sentence("with depth 0 the core has STOPPED, and the PC is as it was before",
                AbortTest::faultsWithoutATransaction);
        check.finish();
    }

    private static TransactionCores oneWay() {
        return new TransactionCores(2, 1, 1);
    }

    /** Core 0, in a transaction, with a cache of one way, comes to an abort of this cause. */
    private static void bringAbout(TransactionCores x, int cause) {
        Words.goOn(x, 0, Words.set(0, 0), Words.load(1, 0, 0));
        switch (cause) {
            case 1 -> x.poke(0, 0);
            case 2 -> Words.goOn(x, 0, Words.load(1, 0, 2));
            case 3 -> {
                for (int depth = x.register(0, 9); depth <= 3; depth++) {
                    Words.goOn(x, 0, Words.begin(1));
                }
            }
            case 4 -> Words.goOn(x, 0, Words.abort(0));
            default -> Words.goOn(x, 0, Words.FAULT);
        }
    }

    private static void writtenWaysAreInvalid() {
        TransactionCores x = new TransactionCores(2, 2, 2);
        Words.does(x, 0, Words.set(1, 6), Words.store(1, 0, 6), Words.begin(5), Words.store(1, 0, 0),
                Words.store(1, 0, 2), Words.load(2, 0, 4), Words.load(2, 0, 6));
        Words.does(x, 1, Words.load(1, 0, 2));
        check.same("written", x.way(0, 0, 0, 0), 0);
        check.same("written", x.way(0, 1, 1, 0), 0);
        check.same("only read", x.way(0, 0, 1, 0), 1);
        check.same("only read, mark gone", x.way(0, 0, 1, 2), 0);
        check.same("modified before and only read", x.way(0, 1, 0, 0), 2);
        check.same("mark gone", x.way(0, 1, 0, 2), 0);
        check.same("nothing of it is seen", x.peek(0), 0);
        check.same("nothing of it is seen", x.peek(2), 0);
        check.same("what was before is", x.peek(6), 6);
    }

    private static void registersAndCause() {
        for (int cause : EVERY_CAUSE) {
            TransactionCores x = oneWay();
            for (int r = 0; r < 8; r++) {
                Words.goOn(x, 0, Words.set(r, 10 + r));
            }
            Words.goOn(x, 0, Words.begin(3));
            for (int r = 0; r < 8; r++) {
                Words.goOn(x, 0, Words.set(r, 50 + r));
            }
            bringAbout(x, cause);
            for (int r = 0; r < 7; r++) {
                check.same("cause " + cause + ", register " + r, x.register(0, r), 10 + r);
            }
            check.same("register 7", x.register(0, 7), cause);
        }
    }

    private static void innerBeginsNoteNothing() {
        for (int cause : EVERY_CAUSE) {
            TransactionCores x = oneWay();
            Words.does(x, 0, Words.set(2, 1), Words.begin(9), Words.set(2, 2), Words.begin(0), Words.set(2, 3),
                    Words.END, Words.begin(0), Words.set(2, 4));
            bringAbout(x, cause);
            check.same("cause " + cause + ", as at the outermost", x.register(0, 2), 1);
        }
    }

    private static void secondTransactionNotesAnew() {
        for (int cause : EVERY_CAUSE) {
            TransactionCores x = oneWay();
            Words.does(x, 0, Words.begin(7), Words.set(2, 6), Words.END, Words.begin(3), Words.set(2, 7));
            bringAbout(x, cause);
            check.same("cause " + cause + ", as at its own begin", x.register(0, 2), 6);
            check.same("its own fallback", x.register(0, 8), 7);
            check.same("commits", x.fate(0, 0), 1);
        }
    }

    private static void fallbackOfTheOutermost() {
        for (int cause : EVERY_CAUSE) {
            TransactionCores x = oneWay();
            Words.does(x, 0, Words.set(2, 1), Words.begin(10), Words.begin(1), Words.depth(3));
            bringAbout(x, cause);
            check.same("cause " + cause, x.register(0, 8), 12);
            check.same("and from there it goes on", x.step(0), 1);
        }
    }

    private static void depthAndCount() {
        for (int cause : EVERY_CAUSE) {
            TransactionCores x = oneWay();
            for (int times = 1; times <= 3; times++) {
                Words.goOn(x, 0, Words.begin(0));
                bringAbout(x, cause);
                check.same("depth", x.register(0, 9), 0);
                for (int fate = 0; fate <= 5; fate++) {
                    check.same("fate " + fate, x.fate(0, fate), fate == cause ? times : 0);
                    check.same("fate " + fate + " of the other", x.fate(1, fate), 0);
                }
            }
        }
    }

    private static void nesting() {
        TransactionCores x = oneWay();
        Words.put(x, 0, Words.begin(10), Words.begin(7), Words.begin(5), Words.begin(3));
        for (int depth = 1; depth <= 3; depth++) {
            check.same("begin", x.step(0), 4);
            check.same("depth", x.register(0, 9), depth);
            check.same("PC", x.register(0, 8), depth);
            check.same("no abort", x.fate(0, 3), 0);
        }
        check.same("with depth 3", x.step(0), 2);
        check.same("the cause", x.register(0, 7), 3);
        check.same("depth", x.register(0, 9), 0);
        check.same("the outermost's fallback", x.register(0, 8), 11);
        check.same("counted", x.fate(0, 3), 1);
        Words.goOn(x, 0, Words.begin(0));
        check.same("the next one is an outermost one", x.register(0, 9), 1);
    }

    private static void endWithoutATransaction() {
        TransactionCores x = oneWay();
        Words.put(x, 0, Words.begin(7), Words.END, Words.END);
        x.run(0, 2);
        check.same("is stopped now", x.step(0), 0);
        check.same("stopped", x.register(0, 10), 1);
        check.same("PC as before", x.register(0, 8), 2);
        check.same("depth", x.register(0, 9), 0);
        check.same("only the commit before it", x.fate(0, 0), 1);
        check.same("no transaction was aborted", x.fate(0, 5), 0);
        check.same("no cause", x.register(0, 7), 0);
        TransactionCores fresh = oneWay();
        Words.does(fresh, 0, Words.END);
        check.same("of a new object", fresh.register(0, 10), 1);
    }

    private static void commits() {
        TransactionCores x = new TransactionCores(1, 1, 3);
        Words.does(x, 0, Words.begin(7), Words.set(1, 6), Words.load(2, 0, 0), Words.store(1, 0, 2),
                Words.load(2, 0, 4), Words.store(1, 0, 4));
        x.code(0, 6, Words.END);
        check.same("commits", x.step(0), 3);
        check.same("counted", x.fate(0, 0), 1);
        check.same("depth", x.register(0, 9), 0);
        check.same("PC", x.register(0, 8), 7);
        for (int way = 0; way < 3; way++) {
            check.same("state", x.way(0, 0, way, 0), way == 0 ? 1 : 2);
            check.same("marks", x.way(0, 0, way, 2), 0);
        }
        check.same("registers stay", x.register(0, 1), 6);
        check.same("register 7 stays", x.register(0, 7), 0);
    }

    private static void innerEnds() {
        TransactionCores x = oneWay();
        Words.does(x, 0, Words.begin(7), Words.begin(0), Words.begin(0), Words.store(1, 0, 0));
        for (int depth = 2; depth >= 1; depth--) {
            x.code(0, x.register(0, 8), Words.END);
            check.same("an inner end", x.step(0), 4);
            check.same("depth", x.register(0, 9), depth);
            check.same("no commit", x.fate(0, 0), 0);
            check.same("the mark stays", x.way(0, 0, 0, 2), 2);
        }
        x.code(0, x.register(0, 8), Words.END);
        check.same("the outermost end", x.step(0), 3);
        check.same("one commit", x.fate(0, 0), 1);
    }

    private static void commitIsSeenAtOnce() {
        TransactionCores x = new TransactionCores(2, 2, 1);
        Words.does(x, 0, Words.begin(7), Words.set(1, 6), Words.store(1, 0, 0), Words.store(1, 0, 2));
        check.same("before", x.peek(0) + x.peek(2), 0);
        Words.goOn(x, 0, Words.END);
        check.same("after", x.peek(0), 6);
        check.same("after", x.peek(2), 6);
        check.same("memory", x.memory(0), 0);
        Words.does(x, 1, Words.load(1, 0, 0), Words.load(2, 0, 2));
        check.same("loaded", x.register(1, 1), 6);
        check.same("loaded", x.register(1, 2), 6);
        check.same("no conflict any more", x.fate(0, 1), 0);
    }

    private static void abortWithoutATransaction() {
        for (int immediate : new int[] {0, 3, 255, -1}) {
            TransactionCores x = oneWay();
            Words.does(x, 0, Words.begin(9), Words.set(1, 4), Words.END, Words.set(7, 70));
            x.code(0, 4, Words.abort(immediate));
            check.same("answer", x.step(0), 4);
            check.same("PC", x.register(0, 8), 5);
            check.same("registers", x.register(0, 1), 4);
            check.same("register 7", x.register(0, 7), 70);
            check.same("not counted", x.fate(0, 4), 0);
            check.same("not stopped", x.register(0, 10), 0);
        }
    }

    private static void explicitCodes() {
        int[][] rows = {{0, 4}, {1, 12}, {127, 1020}, {128, 1028}, {255, 2044}, {256, 4}, {257, 12}, {-1, 2044},
            {-256, 4}, {300, 356}, {1048575, 2044}, {-1048576, 4}};
        for (int[] row : rows) {
            TransactionCores x = oneWay();
            Words.put(x, 0, Words.begin(5), Words.begin(6), Words.abort(row[0]));
            x.run(0, 2);
            check.same("step", x.step(0), 2);
            check.same("register 7 for " + row[0], x.register(0, 7), row[1]);
            check.same("counted", x.fate(0, 4), 1);
        }
    }

    private static void explicitWithOtherBits() {
        TransactionCores x = oneWay();
        Words.does(x, 0, Words.set(7, 1000), Words.set(2, 99), Words.begin(5), Words.set(7, 3),
                Words.word(11, 2, 7, 1) | 1 << 10);
        check.same("register 7", x.register(0, 7), 12);
        check.same("register 2", x.register(0, 2), 99);
    }

    private static void faultsInATransaction() {
        for (int word : new int[] {14, 15, -1, Words.word(14, 7, 7, -5), Words.word(15, 1, 2, 3)}) {
            for (int depth = 1; depth <= 3; depth++) {
                TransactionCores x = oneWay();
                for (int k = 0; k < depth; k++) {
                    Words.goOn(x, 0, Words.begin(6));
                }
                x.code(0, depth, word);
                check.same("aborted", x.step(0), 2);
                check.same("not stopped", x.register(0, 10), 0);
                check.same("the cause", x.register(0, 7), 5);
                check.same("the fallback", x.register(0, 8), 7);
                check.same("depth", x.register(0, 9), 0);
                check.same("counted", x.fate(0, 5), 1);
            }
        }
    }

    private static void faultsWithoutATransaction() {
        for (int word : new int[] {Words.END, 14, 15, -1, Words.word(15, 3, 3, 77), Words.word(10, 7, 7, -1)}) {
            TransactionCores x = oneWay();
            Words.put(x, 0, Words.set(1, 2), word);
            x.step(0);
            check.same("is stopped now", x.step(0), 0);
            check.same("stopped", x.register(0, 10), 1);
            check.same("PC as before", x.register(0, 8), 1);
            check.same("no abort is counted", x.fate(0, 5), 0);
            check.same("no commit is counted", x.fate(0, 0), 0);
            check.same("register 7", x.register(0, 7), 0);
            check.same("the other core is not", x.register(1, 10), 0);
        }
    }
}
