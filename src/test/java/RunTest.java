/** Promise 6: runs of steps. */
public final class RunTest {
    private static final Check check = new Check();

    public static void main(String[] args) {
        for (int n = 1; n <= 3; n++) {
            whoSteps(n, 0b11_10_01_00, 4);
            whoSteps(n, 0x1B1B1B1B, 16);
            whoSteps(n, -1, 16);
            whoSteps(n, 0xC0000000, 16);
            whoSteps(n, 0x40000000, 15);
            whoSteps(n, 0x12345678, 9);
            whoSteps(n, Integer.MIN_VALUE, 1);
            whoSteps(n, -1, 0);
        }
        commits();
        orderMatters();
        goesOnPastAStop();
        wrongArguments();
        check.finish();
    }

    /** Each core counts its own steps in a register. */
    private static void whoSteps(int n, int order, int steps) {
        TransactionCores x = new TransactionCores(n, 1, 1);
        for (int c = 0; c < n; c++) {
            Words.does(x, c, Words.set(1, 1));
            for (int place = 0; place < 16; place++) {
                x.code(c, place, Words.add(2, 2, 1));
            }
        }
        check.same("no commits", x.run(order, steps), 0);
        int[] due = new int[n];
        for (int k = 0; k < steps; k++) {
            due[(int) ((order & 0xFFFFFFFFL) / (1L << 2 * k) % 4) % n]++;
        }
        for (int c = 0; c < n; c++) {
            check.same("steps of core " + c + " of " + n, x.register(c, 2), due[c]);
        }
    }

    private static void commits() {
        TransactionCores x = new TransactionCores(2, 1, 1);
        for (int place = 0; place < 16; place += 4) {
            x.code(0, place, Words.begin(0));
            x.code(0, place + 1, Words.begin(0));
            x.code(0, place + 2, Words.END);
            x.code(0, place + 3, Words.END);
        }
        Words.put(x, 1, Words.begin(0), Words.END, Words.begin(0), Words.abort(1));
        check.same("of one core", x.run(0, 16), 4);
        check.same("of both", x.run(0b00_01_00_01_00_00_01_01, 8), 2);
        check.same("fate", x.fate(0, 0), 5);
        check.same("fate", x.fate(1, 0), 1);
        check.same("fate", x.fate(1, 4), 1);
    }

    private static void orderMatters() {
        TransactionCores x = new TransactionCores(2, 1, 1);
        Words.put(x, 0, Words.begin(0), Words.load(1, 0, 0), Words.END);
        Words.put(x, 1, Words.store(0, 0, 0));
        check.same("the store comes between", x.run(0b00_01_00_00, 4), 0);
        check.same("conflict", x.fate(0, 1), 1);
        TransactionCores y = new TransactionCores(2, 1, 1);
        Words.put(y, 0, Words.begin(0), Words.load(1, 0, 0), Words.END);
        Words.put(y, 1, Words.store(0, 0, 0));
        check.same("the store comes last", y.run(0b01_00_00_00, 4), 1);
    }

    private static void goesOnPastAStop() {
        TransactionCores x = new TransactionCores(2, 1, 1);
        Words.put(x, 0, 15);
        Words.put(x, 1, Words.begin(0), Words.END);
        check.same("commits", x.run(0b01_00_01_00, 4), 1);
        check.same("stopped", x.register(0, 10), 1);
    }

    private static void wrongArguments() {
        TransactionCores x = new TransactionCores(1, 1, 1);
        Words.put(x, 0, Words.set(1, 1));
        for (int bad : new int[] {-1, 17, 18, Integer.MIN_VALUE, Integer.MAX_VALUE}) {
            check.throwing("steps " + bad, IllegalArgumentException.class, () -> x.run(0, bad));
        }
        check.same("nothing was done", x.register(0, 8), 0);
        check.same("nothing was done", x.register(0, 1), 0);
    }
}
