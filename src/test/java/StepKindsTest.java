/** Promise 5: what each kind of word does, and what the step answers. */
public final class StepKindsTest {
    private static final Check check = new Check();

    public static void main(String[] args) {
        waits();
        immediates();
        reckoning();
        theBitWithoutMeaning();
        jumpsIfZero();
        jumpsIfLess();
        depthAndNumber();
        transactionsAndTheirAnswers();
        faultsWithoutATransaction();
        faultsInATransaction();
        loadAndStore();
        wrongArguments();
        check.finish();
    }

    private static TransactionCores one(int... words) {
        TransactionCores x = new TransactionCores(1, 1, 1);
        Words.put(x, 0, words);
        return x;
    }

    private static void waits() {
        TransactionCores x = one(Words.set(1, 3), Words.word(0, 7, 7, -1), Words.set(1, 4));
        check.same("set", x.step(0), 4);
        check.same("wait", x.step(0), 1);
        check.same("wait again", x.step(0), 1);
        check.same("PC", x.register(0, 8), 1);
        check.same("register", x.register(0, 1), 3);
        check.same("not stopped", x.register(0, 10), 0);
        TransactionCores y = one(Words.begin(5));
        y.step(0);
        check.same("wait in a transaction", y.step(0), 1);
        check.same("depth", y.register(0, 9), 1);
    }

    private static void immediates() {
        int[] values = {0, 1, -1, 1048575, -1048576, 12345, -54321};
        for (int value : values) {
            for (int a = 0; a < 8; a++) {
                TransactionCores x = one(Words.set(a, value));
                check.same("step", x.step(0), 4);
                for (int r = 0; r < 8; r++) {
                    check.same("register " + r, x.register(0, r), r == a ? value : 0);
                }
                check.same("PC", x.register(0, 8), 1);
            }
        }
    }

    private static void reckoning() {
        int[][] pairs = {{5, 3}, {3, 5}, {-7, 12}, {1048575, -1048576}, {0, 0}, {-1, 6}};
        for (int[] pair : pairs) {
            TransactionCores x = one(Words.set(1, pair[0]), Words.set(2, pair[1]), Words.add(3, 1, 2),
                    Words.subtract(4, 1, 2), Words.and(5, 1, 2), Words.add(6, 1, 2 - 8));
            check.same("commits", x.run(0, 6), 0);
            check.same("sum", x.register(0, 3), pair[0] + pair[1]);
            check.same("difference", x.register(0, 4), pair[0] - pair[1]);
            check.same("and", x.register(0, 5), pair[0] & pair[1]);
            check.same("C is the lowest three bits", x.register(0, 6), pair[0] + pair[1]);
        }
        TransactionCores x = one(Words.set(1, 1048575), Words.add(1, 1, 1), Words.ifZero(0, -2));
        Words.steps(x, 0, 1 + 2 * 12);
        check.same("wrap", x.register(0, 1), 1048575 << 12);
    }

    private static void theBitWithoutMeaning() {
        TransactionCores x = one(Words.set(7, 3) | 1 << 10, Words.add(6, 7, 7) | 1 << 10);
        x.run(0, 2);
        check.same("set", x.register(0, 7), 3);
        check.same("add", x.register(0, 6), 6);
    }

    private static void jumpsIfZero() {
        int[][] rows = {{0, 3, 5}, {0, -2, 0}, {0, -3, 15}, {0, 14, 0}, {0, 0, 2}, {0, -1048576, 2},
            {1, 3, 2}, {-1, 3, 2}};
        for (int[] row : rows) {
            TransactionCores x = one(Words.set(1, row[0]), Words.ifZero(1, row[1]));
            x.step(0);
            check.same("step", x.step(0), 4);
            check.same("PC", x.register(0, 8), row[2]);
        }
    }

    private static void jumpsIfLess() {
        int[][] rows = {{1, 2, 4, 7}, {2, 2, 4, 3}, {3, 2, 4, 3}, {-1, 0, -4, 15}, {0, -1, 4, 3}};
        for (int[] row : rows) {
            TransactionCores x = one(Words.set(1, row[0]), Words.set(2, row[1]), Words.ifLess(1, 2, row[2]));
            x.run(0, 2);
            check.same("step", x.step(0), 4);
            check.same("PC", x.register(0, 8), row[3]);
        }
        // A difference of the two would wrap, a comparison does not.
        TransactionCores x = new TransactionCores(1, 1, 1);
        x.poke(0, Integer.MIN_VALUE);
        x.poke(1, Integer.MAX_VALUE);
        Words.does(x, 0, Words.load(1, 0, 0), Words.load(2, 0, 1), Words.ifLess(2, 1, 5), Words.ifLess(1, 2, 5));
        check.same("PC", x.register(0, 8), 9);
    }

    private static void depthAndNumber() {
        TransactionCores x = new TransactionCores(3, 1, 1);
        for (int c = 0; c < 3; c++) {
            Words.put(x, c, Words.set(5, -1), Words.depth(5), Words.begin(0), Words.depth(1), Words.begin(0),
                    Words.depth(2), Words.begin(0), Words.depth(3), Words.number(4));
            for (int k = 0; k < 9; k++) {
                check.same("step", x.step(c), 4);
            }
            check.same("depth 0", x.register(c, 5), 0);
            check.same("depth 1", x.register(c, 1), 1);
            check.same("depth 2", x.register(c, 2), 2);
            check.same("depth 3", x.register(c, 3), 3);
            check.same("number", x.register(c, 4), c);
        }
    }

    private static void transactionsAndTheirAnswers() {
        TransactionCores x = one(Words.abort(3), Words.begin(9), Words.begin(4), Words.END, Words.END);
        int[] due = {4, 4, 4, 4, 3};
        int[] depth = {0, 1, 2, 1, 0};
        for (int k = 0; k < 5; k++) {
            check.same("step " + k, x.step(0), due[k]);
            check.same("depth after " + k, x.register(0, 9), depth[k]);
            check.same("PC after " + k, x.register(0, 8), k + 1);
        }
        check.same("one commit", x.fate(0, 0), 1);
        check.same("an abort without a transaction is nothing", x.fate(0, 4), 0);
        check.same("an abort without a transaction is nothing", x.register(0, 7), 0);
    }

    private static void faultsWithoutATransaction() {
        for (int word : new int[] {Words.END, 14, 15, -1, Words.word(15, 3, 3, 77)}) {
            TransactionCores x = one(Words.set(1, 2), word);
            x.step(0);
            check.same("is stopped now", x.step(0), 0);
            check.same("stopped", x.register(0, 10), 1);
            check.same("PC as before", x.register(0, 8), 1);
            x.code(0, 1, Words.set(1, 3));
            check.same("has stopped before", x.step(0), 0);
            check.same("does nothing", x.register(0, 1), 2);
            check.same("no abort is counted", x.fate(0, 5), 0);
            check.same("no commit is counted", x.fate(0, 0), 0);
        }
    }

    private static void faultsInATransaction() {
        for (int word : new int[] {14, 15, -1}) {
            TransactionCores x = one(Words.begin(6), Words.set(1, 2), word);
            x.run(0, 2);
            check.same("aborted", x.step(0), 2);
            check.same("not stopped", x.register(0, 10), 0);
            check.same("the cause", x.register(0, 7), 5);
            check.same("the fallback", x.register(0, 8), 7);
            check.same("the register", x.register(0, 1), 0);
            check.same("counted", x.fate(0, 5), 1);
        }
    }

    private static void loadAndStore() {
        TransactionCores x = new TransactionCores(1, 2, 2);
        x.poke(9, 900);
        Words.put(x, 0, Words.set(1, 4), Words.load(2, 1, 5), Words.store(2, 1, -3), Words.load(1, 1, -67),
                Words.store(0, 0, 63), Words.load(3, 0, -63));
        for (int k = 0; k < 6; k++) {
            check.same("step", x.step(0), 4);
        }
        check.same("load at B + immediate", x.register(0, 2), 900);
        check.same("store at B + immediate", x.peek(1), 900);
        check.same("a load may fill its own B, from 4 - 67 = 1", x.register(0, 1), 900);
        check.same("load from -63 = 1", x.register(0, 3), 900);
    }

    private static void wrongArguments() {
        TransactionCores x = new TransactionCores(2, 1, 1);
        for (int bad : new int[] {-1, 2, 3, Integer.MIN_VALUE, Integer.MAX_VALUE}) {
            check.outOfBounds("core " + bad, () -> x.step(bad));
        }
        check.same("core 1", x.step(1), 1);
    }
}
