/** Promise 1: the sizes of a new object. */
public final class NewObjectTest {
    private static final Check check = new Check();
    private static final int LEAST = Integer.MIN_VALUE;
    private static final int GREATEST = Integer.MAX_VALUE;
    /** Numbers that are wanted, and what is the nearest of 1 to 3. */
    private static final int[][] ONE_TO_THREE = {{LEAST, 1}, {LEAST + 1, 1}, {-5, 1}, {-1, 1}, {0, 1}, {1, 1}, {2, 2},
        {3, 3}, {4, 3}, {5, 3}, {100, 3}, {GREATEST - 1, 3}, {GREATEST, 3}};
    /** The same of 1, 2 and 4, but for 3, which has a test of its own. */
    private static final int[][] SETS = {{LEAST, 1}, {LEAST + 1, 1}, {-5, 1}, {-1, 1}, {0, 1}, {1, 1}, {2, 2}, {4, 4},
        {5, 4}, {6, 4}, {8, 4}, {100, 4}, {GREATEST - 1, 4}, {GREATEST, 4}};

    public static void main(String[] args) {
        check.sentence("n is 1 to 3, sets 1, 2 or 4, ways 1 to 3", NewObjectTest::everySize);
        check.sentence("the nearest ones that can be (n)", NewObjectTest::nearestCores);
        check.sentence("the nearest ones that can be (sets)", NewObjectTest::nearestSets);
        check.sentence("the nearest ones that can be (ways)", NewObjectTest::nearestWays);
        check.sentence("(of two equally near the lesser one)", NewObjectTest::lesserOfTwo);
        check.sentence("the nearest ones that can be (all at once)", NewObjectTest::allAtOnce);
        check.sentence("(at first 0)", NewObjectTest::atFirst);
        check.finish();
    }

    private static void sizes(TransactionCores x, int n, int sets, int ways) {
        check.same("cores", countThere(c -> x.register(c, 0)), n);
        for (int c = 0; c < n; c++) {
            int core = c;
            check.same("sets", countThere(s -> x.way(core, s, 0, 0)), sets);
            for (int s = 0; s < sets; s++) {
                int set = s;
                check.same("ways", countThere(w -> x.way(core, set, w, 0)), ways);
            }
        }
    }

    private static int countThere(java.util.function.IntConsumer ask) {
        int there = 0;
        for (int k = 0; k < 10; k++) {
            try {
                ask.accept(k);
                there++;
            } catch (IndexOutOfBoundsException e) {
                return there;
            }
        }
        return there;
    }

    private static void everySize() {
        for (int n = 1; n <= 3; n++) {
            for (int sets = 1; sets <= 4; sets *= 2) {
                for (int ways = 1; ways <= 3; ways++) {
                    sizes(new TransactionCores(n, sets, ways), n, sets, ways);
                }
            }
        }
    }

    private static void nearestCores() {
        for (int[] row : ONE_TO_THREE) {
            sizes(new TransactionCores(row[0], 2, 2), row[1], 2, 2);
        }
    }

    private static void nearestSets() {
        for (int[] row : SETS) {
            sizes(new TransactionCores(2, row[0], 2), 2, row[1], 2);
        }
    }

    private static void nearestWays() {
        for (int[] row : ONE_TO_THREE) {
            sizes(new TransactionCores(2, 2, row[0]), 2, 2, row[1]);
        }
    }

    /** Only 3 sets are as near to one number that can be as to another. */
    private static void lesserOfTwo() {
        sizes(new TransactionCores(1, 3, 1), 1, 2, 1);
        sizes(new TransactionCores(3, 3, 3), 3, 2, 3);
        TransactionCores x = new TransactionCores(1, 3, 1);
        Words.does(x, 0, Words.load(1, 0, 10));
        check.same("line 5 is in set 1 of 2", x.way(0, 1, 0, 1), 5);
    }

    private static void allAtOnce() {
        sizes(new TransactionCores(0, 0, 0), 1, 1, 1);
        sizes(new TransactionCores(LEAST, LEAST, LEAST), 1, 1, 1);
        sizes(new TransactionCores(GREATEST, GREATEST, GREATEST), 3, 4, 3);
        sizes(new TransactionCores(4, -1, 2), 3, 1, 2);
    }

    private static void atFirst() {
        TransactionCores x = new TransactionCores(3, 4, 3);
        for (int c = 0; c < 3; c++) {
            for (int r = 0; r <= 10; r++) {
                check.same("register " + r, x.register(c, r), 0);
            }
            for (int cause = 0; cause <= 5; cause++) {
                check.same("fate " + cause, x.fate(c, cause), 0);
            }
        }
        for (int address = 0; address < 64; address++) {
            check.same("peek", x.peek(address), 0);
        }
        check.same("requests", x.requests(), 0);
    }
}
