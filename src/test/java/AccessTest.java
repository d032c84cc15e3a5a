/** "Terms", AN ACCESS: its room, its filling, its marks; its requests stand in RequestTest. */
public final class AccessTest {
    private static final Check check = new Check();
    private static final String ROOM = "ROOM is looked for in its set: ";
    private static final String ALL_MARKED =
            "If all have marks, the core's transaction is aborted (OVERFLOW), and nothing else happens.";
    private static final String KEPT_FIRST =
            "in a transaction, if it was modified before and has no write mark, its words go to memory first";

    public static void main(String[] args) {
        check.sentence("(a load, a store, or the filling)", AccessTest::everyUseCounts);
        check.sentence("by its own core", AccessTest::othersDoNotUse);
        check.sentence(ROOM + "the first way that is invalid", AccessTest::firstInvalidWay);
        check.sentence(ROOM + "the first way that is invalid (before all that have lines)",
                AccessTest::invalidBeforeEarliest);
        check.sentence(ROOM + "the first way that is invalid (behind marks)", AccessTest::invalidBehindMarks);
        check.sentence("or else of those without marks the one whose use was the earliest", AccessTest::earliestUse);
        check.sentence("or else of those without marks (some have marks)", AccessTest::earliestWithoutMarks);
        check.sentence("If no way has the line (one that is there needs no room)", AccessTest::noRoomNeeded);
        check.sentence(ALL_MARKED, AccessTest::overflow);
        check.sentence(ALL_MARKED + " (all but one)", AccessTest::lastWayWithoutMarks);
        check.sentence(ALL_MARKED + " (nothing else)", AccessTest::overflowMeetsNobody);
        check.sentence("An access that aborts its own transaction does not load or store.",
                AccessTest::overflowLoadsAndStoresNothing);
        check.sentence("the way that makes room is modified: its words go to memory",
                AccessTest::modifiedGoesToMemoryForRoom);
        check.sentence("the way that makes room is modified: its words go to memory (an invalid one's do not)",
                AccessTest::invalidWayIsFilledAnew);
        check.sentence("It has the line then, with the words of memory, shared.", AccessTest::loadFills);
        check.sentence("If it is to be written: the way is modified", AccessTest::storeModifies);
        check.sentence(KEPT_FIRST, AccessTest::modifiedGoesToMemoryFirst);
        check.sentence(KEPT_FIRST + " (a read mark)", AccessTest::readMarkIsNoWriteMark);
        check.sentence(KEPT_FIRST + " (a write mark)", AccessTest::onlyTheFirstTime);
        check.sentence(KEPT_FIRST + " (no transaction)", AccessTest::notWithoutATransaction);
        check.sentence("In a transaction the way gets the mark of its access (and keeps others).",
                AccessTest::marksOfAccesses);
        check.finish();
    }

    private static void way(TransactionCores x, int core, int set, int way, int... due) {
        for (int what = 0; what < due.length; what++) {
            check.same("core " + core + " way " + set + "," + way + " what " + what,
                    x.way(core, set, way, what), due[what]);
        }
    }

    /** The lines of the first set's ways, -1 if invalid. */
    private static void lines(TransactionCores x, int... due) {
        for (int way = 0; way < due.length; way++) {
            check.same("line of way " + way, x.way(0, 0, way, 1), due[way]);
        }
    }

    private static int loadLine(int line) {
        return Words.load(1, 0, 2 * line);
    }

    private static int storeLine(int line) {
        return Words.store(1, 0, 2 * line);
    }

    private static void everyUseCounts() {
        for (int word : new int[] {loadLine(0), storeLine(0)}) {
            TransactionCores x = new TransactionCores(1, 1, 2);
            Words.does(x, 0, loadLine(0), loadLine(1), word, loadLine(2));
            lines(x, 0, 2);
        }
        for (int word : new int[] {loadLine(2), storeLine(2)}) {
            TransactionCores x = new TransactionCores(1, 1, 2);
            Words.does(x, 0, loadLine(0), loadLine(1), word, loadLine(3));
            lines(x, 2, 3);
        }
    }

    /** A request that meets a way, a poke or a peek is no use of it. */
    private static void othersDoNotUse() {
        TransactionCores x = new TransactionCores(2, 1, 2);
        Words.does(x, 0, storeLine(0), loadLine(1));
        Words.does(x, 1, loadLine(0));
        x.peek(0);
        Words.goOn(x, 0, loadLine(2));
        lines(x, 2, 1);
    }

    private static void firstInvalidWay() {
        TransactionCores fresh = new TransactionCores(1, 1, 3);
        for (int way = 0; way < 3; way++) {
            Words.goOn(fresh, 0, loadLine(4 + way));
            lines(fresh, 4, way < 1 ? -1 : 5, way < 2 ? -1 : 6);
        }
        for (int[] emptied : new int[][] {{0, 1}, {1, 0}, {0, 2}, {2, 0}, {1, 2}, {2, 1}}) {
            TransactionCores x = new TransactionCores(1, 1, 3);
            Words.does(x, 0, loadLine(0), loadLine(1), loadLine(2));
            x.poke(2 * emptied[0], 0);
            x.poke(2 * emptied[1], 0);
            Words.goOn(x, 0, loadLine(9));
            int first = Math.min(emptied[0], emptied[1]);
            check.same("the first of the two", x.way(0, 0, first, 1), 9);
            check.same("the second stays", x.way(0, 0, Math.max(emptied[0], emptied[1]), 0), 0);
        }
    }

    private static void invalidBeforeEarliest() {
        for (int emptied = 0; emptied < 3; emptied++) {
            TransactionCores x = new TransactionCores(1, 1, 3);
            Words.does(x, 0, loadLine(0), loadLine(1), loadLine(2));
            x.poke(2 * emptied, 0);
            for (int line = 0; line < 3; line++) {
                if (line != emptied) {
                    Words.goOn(x, 0, loadLine(line));
                }
            }
            Words.goOn(x, 0, loadLine(9));
            for (int way = 0; way < 3; way++) {
                check.same("way " + way, x.way(0, 0, way, 1), way == emptied ? 9 : way);
            }
        }
    }

    private static void invalidBehindMarks() {
        TransactionCores x = new TransactionCores(1, 1, 3);
        Words.does(x, 0, Words.begin(0), loadLine(0), storeLine(1), loadLine(2));
        lines(x, 0, 1, 2);
        check.same("the transaction goes on", x.register(0, 9), 1);
        Words.goOn(x, 0, Words.abort(0), loadLine(4));
        lines(x, 0, 4, 2);
    }

    /** Three lines are used in every order, and the first of it goes. */
    private static void earliestUse() {
        for (int[] order : new int[][] {{0, 1, 2}, {0, 2, 1}, {1, 0, 2}, {1, 2, 0}, {2, 0, 1}, {2, 1, 0}}) {
            TransactionCores x = new TransactionCores(1, 1, 3);
            Words.does(x, 0, loadLine(0), loadLine(1), loadLine(2), storeLine(order[0]), loadLine(order[1]),
                    storeLine(order[2]), loadLine(9), loadLine(10));
            check.same("the first", x.way(0, 0, order[0], 1), 9);
            check.same("the second", x.way(0, 0, order[1], 1), 10);
            check.same("the third stays", x.way(0, 0, order[2], 1), order[2]);
        }
    }

    /** A line with a mark, of either kind, stays while there is another one without. */
    private static void earliestWithoutMarks() {
        for (int marked = 0; marked < 3; marked++) {
            for (int word : new int[] {loadLine(marked), storeLine(marked)}) {
                TransactionCores x = new TransactionCores(1, 1, 3);
                int next = marked == 0 ? 1 : 0;
                int last = 3 - marked - next;
                Words.does(x, 0, loadLine(0), loadLine(1), loadLine(2), Words.begin(0), word, Words.begin(0),
                        loadLine(9));
                check.same("the marked one stays", x.way(0, 0, marked, 1), marked);
                check.same("the earliest one goes", x.way(0, 0, next, 1), 9);
                check.same("the later one stays", x.way(0, 0, last, 1), last);
                Words.goOn(x, 0, loadLine(10));
                check.same("then the later one goes", x.way(0, 0, last, 1), 10);
                check.same("the marked one stays", x.way(0, 0, marked, 1), marked);
            }
        }
    }

    private static void noRoomNeeded() {
        TransactionCores x = new TransactionCores(1, 1, 2);
        Words.does(x, 0, Words.begin(0), loadLine(0), storeLine(1), storeLine(0), loadLine(1), loadLine(0),
                storeLine(1));
        check.same("no overflow", x.fate(0, 2), 0);
        check.same("depth", x.register(0, 9), 1);
        way(x, 0, 0, 0, 2, 0, 3);
        way(x, 0, 0, 1, 2, 1, 3);
    }

    /** In every size of sets, with marks of both kinds, by loads and by stores. */
    private static void overflow() {
        for (int ways = 1; ways <= 3; ways++) {
            for (int kinds = 0; kinds < 1 << ways + 1; kinds++) {
                TransactionCores x = new TransactionCores(1, 1, ways);
                Words.does(x, 0, Words.begin(9));
                for (int way = 0; way <= ways; way++) {
                    x.code(0, 1 + way, (kinds >> way & 1) == 0 ? loadLine(way) : storeLine(way));
                }
                x.run(0, ways);
                check.same("aborted", x.step(0), 2);
                check.same("counted", x.fate(0, 2), 1);
                check.same("the cause", x.register(0, 7), 2);
                check.same("the fallback", x.register(0, 8), 10);
                check.same("depth", x.register(0, 9), 0);
                for (int way = 0; way < ways; way++) {
                    boolean written = (kinds >> way & 1) == 1;
                    way(x, 0, 0, way, written ? 0 : 1, written ? -1 : way, written ? -1 : 0);
                }
            }
        }
    }

    private static void lastWayWithoutMarks() {
        for (int ways = 1; ways <= 3; ways++) {
            for (int free = 0; free < ways; free++) {
                TransactionCores x = new TransactionCores(1, 1, ways);
                for (int line = 0; line < ways; line++) {
                    Words.goOn(x, 0, loadLine(line));
                }
                Words.goOn(x, 0, Words.begin(0));
                for (int line = 0; line < ways; line++) {
                    Words.goOn(x, 0, line == free ? Words.depth(2) : loadLine(line));
                }
                Words.goOn(x, 0, loadLine(9));
                check.same("no abort", x.register(0, 9), 1);
                check.same("the way without marks", x.way(0, 0, free, 1), 9);
            }
        }
    }

    /** The request of an access that has no room is neither counted nor met by anyone. */
    private static void overflowMeetsNobody() {
        for (int word : new int[] {loadLine(9), storeLine(9)}) {
            TransactionCores x = new TransactionCores(3, 1, 1);
            Words.does(x, 1, Words.set(2, 30), Words.store(2, 0, 18), Words.begin(0), Words.store(2, 0, 19));
            Words.does(x, 0, Words.begin(7), loadLine(0), word);
            check.same("overflow", x.fate(0, 2), 1);
            check.same("requests", x.requests(), 2);
            check.same("no conflict", x.fate(1, 1), 0);
            check.same("the other's transaction", x.register(1, 9), 1);
            way(x, 1, 0, 0, 2, 9, 2, 30, 30);
            check.same("memory", x.memory(19), 0);
            way(x, 0, 0, 0, 1, 0, 0);
        }
    }

    private static void overflowLoadsAndStoresNothing() {
        for (int word : new int[] {Words.load(1, 0, 4), Words.store(1, 0, 4)}) {
            TransactionCores x = new TransactionCores(2, 1, 2);
            x.poke(4, 44);
            Words.does(x, 1, Words.load(1, 0, 4));
            Words.does(x, 0, Words.set(1, 3), Words.begin(6), Words.load(2, 0, 0), Words.store(1, 0, 2), word);
            check.same("overflow", x.fate(0, 2), 1);
            check.same("not loaded", x.register(0, 1), 3);
            check.same("not stored", x.peek(4), 44);
            check.same("not stored", x.memory(4), 44);
            check.same("others keep theirs", x.way(1, 0, 0, 0), 1);
            lines(x, 0, -1);
        }
        // Register 7 holds the cause, and not what a load into it would have brought.
        TransactionCores y = new TransactionCores(1, 1, 1);
        y.poke(4, 44);
        Words.does(y, 0, Words.begin(6), Words.load(7, 0, 0), Words.load(7, 0, 4));
        check.same("register 7", y.register(0, 7), 2);
    }

    private static void modifiedGoesToMemoryForRoom() {
        for (int word : new int[] {Words.load(2, 0, 2), Words.store(2, 0, 2)}) {
            TransactionCores x = new TransactionCores(1, 1, 1);
            Words.does(x, 0, Words.set(1, 8), Words.store(1, 0, 0), Words.set(1, 9), Words.store(1, 0, 1));
            check.same("not yet", x.memory(0), 0);
            Words.goOn(x, 0, word);
            check.same("memory", x.memory(0), 8);
            check.same("memory", x.memory(1), 9);
            way(x, 0, 0, 0, word == Words.load(2, 0, 2) ? 1 : 2, 1, 0, 0, 0);
        }
    }

    /** What an invalid way held is lost, be it by a request or by an abort. */
    private static void invalidWayIsFilledAnew() {
        TransactionCores x = new TransactionCores(1, 1, 1);
        Words.does(x, 0, Words.set(1, 8), Words.store(1, 0, 0));
        x.poke(0, 3);
        x.poke(1, 4);
        Words.goOn(x, 0, Words.load(1, 0, 0));
        check.same("loaded", x.register(0, 1), 3);
        way(x, 0, 0, 0, 1, 0, 0, 3, 4);
        Words.goOn(x, 0, Words.begin(0), Words.store(1, 0, 1), Words.abort(0), Words.load(2, 0, 2));
        check.same("what was invalid never goes to memory", x.memory(0), 3);
        check.same("what was invalid never goes to memory", x.memory(1), 4);
        lines(x, 1);
    }

    private static void loadFills() {
        TransactionCores x = new TransactionCores(1, 2, 1);
        x.poke(10, 101);
        x.poke(11, 102);
        Words.does(x, 0, Words.load(1, 0, 11), Words.load(2, 0, 10));
        way(x, 0, 1, 0, 1, 5, 0, 101, 102);
        way(x, 0, 0, 0, 0, -1, -1, -1, -1);
        check.same("loaded", x.register(0, 1), 102);
        check.same("loaded", x.register(0, 2), 101);
    }

    private static void storeModifies() {
        TransactionCores x = new TransactionCores(1, 2, 1);
        x.poke(10, 101);
        x.poke(11, 102);
        Words.does(x, 0, Words.set(1, 7), Words.store(1, 0, 11));
        way(x, 0, 1, 0, 2, 5, 0, 101, 7);
        check.same("memory", x.memory(11), 102);
        Words.goOn(x, 0, Words.load(2, 0, 0), Words.store(1, 0, 0));
        way(x, 0, 0, 0, 2, 0, 0, 7, 0);
    }

    private static TransactionCores modifiedThenBegun() {
        TransactionCores x = new TransactionCores(1, 1, 1);
        Words.does(x, 0, Words.set(1, 8), Words.store(1, 0, 0), Words.set(1, 6), Words.store(1, 0, 1),
                Words.begin(5), Words.set(1, 9));
        check.same("not yet in memory", x.memory(0), 0);
        return x;
    }

    private static void modifiedGoesToMemoryFirst() {
        TransactionCores x = modifiedThenBegun();
        Words.goOn(x, 0, Words.store(1, 0, 0));
        check.same("what was there before", x.memory(0), 8);
        check.same("both words", x.memory(1), 6);
        check.same("no second request", x.requests(), 1);
        way(x, 0, 0, 0, 2, 0, 2, 9, 6);
        Words.goOn(x, 0, Words.abort(0));
        check.same("it outlives the abort", x.peek(0), 8);
        check.same("it outlives the abort", x.peek(1), 6);
        way(x, 0, 0, 0, 0);
    }

    private static void readMarkIsNoWriteMark() {
        TransactionCores x = modifiedThenBegun();
        Words.goOn(x, 0, Words.load(2, 0, 0));
        check.same("a load sends nothing", x.memory(0), 0);
        Words.goOn(x, 0, Words.store(1, 0, 0));
        check.same("what was there before", x.memory(0), 8);
        check.same("both words", x.memory(1), 6);
        way(x, 0, 0, 0, 2, 0, 3, 9, 6);
    }

    private static void onlyTheFirstTime() {
        TransactionCores x = modifiedThenBegun();
        Words.goOn(x, 0, Words.store(1, 0, 0), Words.set(1, 10), Words.store(1, 0, 1), Words.store(1, 0, 0));
        check.same("only the first time", x.memory(0), 8);
        check.same("only the first time", x.memory(1), 6);
        way(x, 0, 0, 0, 2, 0, 2, 10, 10);
    }

    private static void notWithoutATransaction() {
        TransactionCores x = new TransactionCores(1, 1, 1);
        Words.does(x, 0, Words.set(1, 8), Words.store(1, 0, 0), Words.store(1, 0, 1));
        check.same("memory", x.memory(0), 0);
        way(x, 0, 0, 0, 2, 0, 0, 8, 8);
        Words.goOn(x, 0, Words.begin(0), Words.store(1, 0, 0), Words.set(1, 9), Words.END, Words.store(1, 0, 0));
        check.same("what was there before the transaction", x.memory(0), 8);
        check.same("peek", x.peek(0), 9);
    }

    private static void marksOfAccesses() {
        TransactionCores x = new TransactionCores(1, 1, 3);
        Words.does(x, 0, Words.begin(5), Words.load(1, 0, 0), Words.store(1, 0, 2), Words.load(1, 0, 4),
                Words.store(1, 0, 4));
        way(x, 0, 0, 0, 1, 0, 1);
        way(x, 0, 0, 1, 2, 1, 2);
        way(x, 0, 0, 2, 2, 2, 3);
        Words.goOn(x, 0, Words.begin(0), Words.load(1, 0, 2), Words.load(1, 0, 1));
        way(x, 0, 0, 0, 1, 0, 1);
        way(x, 0, 0, 1, 2, 1, 3);
        Words.goOn(x, 0, Words.END);
        way(x, 0, 0, 1, 2, 1, 3);
    }
}
