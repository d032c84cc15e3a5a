/** Promise 6: runs of steps. */
public final class RunTest {
    private static final Check check = new Check();
    private static final String REFUSED = "IllegalArgumentException if it is not 0 .. 16";
    private static final String TWO_BITS = "the two bits 2 k and 2 k + 1 of order, modulo the number of cores";
    private static final int[] NOT_STEPS = {-1, 17, 18, 32, -16, Integer.MIN_VALUE, Integer.MAX_VALUE};

    public static void main(String[] args) {
        check.sentence("So many steps (0 .. 16)", RunTest::everyNumberOfSteps);
        check.sentence(REFUSED, RunTest::refusesOtherNumbers);
        check.sentence(REFUSED + " (all is as it was)", RunTest::refusedRunsDoNothing);
        check.sentence(TWO_BITS + " (each k)", RunTest::everyTwoBits);
        check.sentence(TWO_BITS + " (each number of cores)", RunTest::moduloTheCores);
        check.sentence(TWO_BITS + " (orders of all kinds)", RunTest::mixedOrders);
        check.sentence("the k-th (one behind the other)", RunTest::orderMatters);
        check.sentence("how many of them committed", RunTest::commits);
        check.sentence("how many of them committed (past a stop)", RunTest::goesOnPastAStop);
        check.finish();
    }

    /** Each core counts its own steps in register 2. */
    private static TransactionCores counting(int n) {
        TransactionCores x = new TransactionCores(n, 1, 1);
        for (int c = 0; c < n; c++) {
            Words.does(x, c, Words.set(1, 1));
            for (int place = 0; place < 16; place++) {
                x.code(c, place, Words.add(2, 2, 1));
            }
        }
        return x;
    }

    private static void everyNumberOfSteps() {
        for (int steps = 0; steps <= 16; steps++) {
            TransactionCores x = counting(1);
            check.same("no commits", x.run(0, steps), 0);
            check.same("steps", x.register(0, 2), steps);
        }
    }

    private static void refusesOtherNumbers() {
        for (int n = 1; n <= 3; n++) {
            TransactionCores x = counting(n);
            for (int bad : NOT_STEPS) {
                check.throwing("steps " + bad, IllegalArgumentException.class, () -> x.run(0, bad));
                check.throwing("steps " + bad, IllegalArgumentException.class, () -> x.run(-1, bad));
            }
            x.run(-1, 0);
            x.run(-1, 16);
        }
    }

    private static void refusedRunsDoNothing() {
        Busy.undisturbed(check, "after refused runs", x -> {
            for (int bad : NOT_STEPS) {
                check.throwing("steps " + bad, IllegalArgumentException.class, () -> x.run(0x1B1B1B1B, bad));
            }
        });
    }

    /** One step of the sixteen is of core 1 or 2, all others are of core 0. */
    private static void everyTwoBits() {
        for (int k = 0; k < 16; k++) {
            for (int core = 1; core <= 2; core++) {
                TransactionCores x = counting(3);
                x.run(core << 2 * k, k);
                check.same("not yet at " + k, x.register(core, 2), 0);
                x.run(core << 2 * k, k + 1);
                check.same("at " + k, x.register(core, 2), 1);
                check.same("all others are of core 0", x.register(0, 2), 2 * k);
            }
        }
    }

    private static void moduloTheCores() {
        int[][] due = {{0, 0, 0, 0}, {0, 1, 0, 1}, {0, 1, 2, 0}};
        for (int n = 1; n <= 3; n++) {
            for (int two = 0; two <= 3; two++) {
                for (int k = 0; k < 16; k += 15) {
                    TransactionCores x = counting(n);
                    x.run(two * 0x55555555, k + 1);
                    for (int c = 0; c < n; c++) {
                        check.same("steps of core " + c + " of " + n + " for " + two, x.register(c, 2),
                                c == due[n - 1][two] ? k + 1 : 0);
                    }
                }
            }
        }
    }

    private static void mixedOrders() {
        int[][] rows = {{0b11_10_01_00, 4}, {0x1B1B1B1B, 16}, {-1, 16}, {0xC0000000, 16}, {0x40000000, 15},
            {0x12345678, 9}, {Integer.MIN_VALUE, 16}, {Integer.MIN_VALUE, 1}, {Integer.MAX_VALUE, 16}, {-1, 0}};
        for (int n = 1; n <= 3; n++) {
            for (int[] row : rows) {
                TransactionCores x = counting(n);
                check.same("no commits", x.run(row[0], row[1]), 0);
                int[] due = new int[n];
                for (int k = 0; k < row[1]; k++) {
                    due[(int) ((row[0] & 0xFFFFFFFFL) / (1L << 2 * k) % 4) % n]++;
                }
                for (int c = 0; c < n; c++) {
                    check.same("steps of core " + c + " of " + n, x.register(c, 2), due[c]);
                }
            }
        }
    }

    private static void orderMatters() {
        TransactionCores x = new TransactionCores(2, 1, 1);
        Words.put(x, 0, Words.begin(0), Words.load(1, 0, 0), Words.END);
        Words.put(x, 1, Words.store(0, 0, 0));
        check.same("the store comes between", x.run(0b00_01_00_00, 4), 0);
        check.same("conflict", x.fate(0, 1), 1);
        TransactionCores y = new TransactionCores(2, 1, 1);
        Words.put(y, 0, Words.begin(0), Words.load(1, 0, 0), Words.END);
        Words.put(y, 1, Words.store(0, 0, 0));
        check.same("the store comes last", y.run(0b01_00_00_00, 4), 1);
    }

    private static void commits() {
        TransactionCores x = new TransactionCores(2, 1, 1);
        for (int place = 0; place < 16; place += 4) {
            x.code(0, place, Words.begin(0));
            x.code(0, place + 1, Words.begin(0));
            x.code(0, place + 2, Words.END);
            x.code(0, place + 3, Words.END);
        }
        Words.put(x, 1, Words.begin(0), Words.END, Words.begin(0), Words.abort(1));
        check.same("of one core", x.run(0, 16), 4);
        check.same("of both", x.run(0b00_01_00_01_00_00_01_01, 8), 2);
        check.same("not those before", x.run(0, 0), 0);
        check.same("fate", x.fate(0, 0), 5);
        check.same("fate", x.fate(1, 0), 1);
        check.same("fate", x.fate(1, 4), 1);
        TransactionCores y = new TransactionCores(1, 1, 1);
        for (int place = 0; place < 16; place++) {
            y.code(0, place, place % 2 == 0 ? Words.begin(0) : Words.END);
        }
        check.same("the most there can be", y.run(0, 16), 8);
    }

    private static void goesOnPastAStop() {
        TransactionCores x = new TransactionCores(2, 1, 1);
        Words.put(x, 0, 15);
        Words.put(x, 1, Words.begin(0), Words.END);
        check.same("commits", x.run(0b01_00_01_00, 4), 1);
        check.same("stopped", x.register(0, 10), 1);
    }
}
