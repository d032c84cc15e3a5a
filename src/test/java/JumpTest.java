/** Promise 7: jumps from outside. */
public final class JumpTest {
    private static final Check check = new Check();

    public static void main(String[] args) {
        modulo();
        startsAgain();
        onlyThatCore();
        notInATransaction();
        wrongArguments();
        check.finish();
    }

    private static void modulo() {
        TransactionCores x = new TransactionCores(1, 1, 1);
        int[][] rows = {{0, 0}, {15, 15}, {16, 0}, {17, 1}, {-1, 15}, {-16, 0}, {-17, 15}, {1000, 8},
            {Integer.MIN_VALUE, 0}, {Integer.MAX_VALUE, 15}, {Integer.MIN_VALUE + 3, 3}};
        for (int[] row : rows) {
            x.jump(0, row[0]);
            check.same("jump " + row[0], x.register(0, 8), row[1]);
        }
    }

    private static void startsAgain() {
        TransactionCores x = new TransactionCores(1, 1, 1);
        Words.put(x, 0, Words.FAULT, Words.set(1, 4));
        check.same("stops", x.step(0), 0);
        x.jump(0, 1);
        check.same("not stopped", x.register(0, 10), 0);
        check.same("steps", x.step(0), 4);
        check.same("did it", x.register(0, 1), 4);
        x.jump(0, 0);
        check.same("stops again", x.step(0), 0);
        check.same("stopped", x.register(0, 10), 1);
    }

    private static void onlyThatCore() {
        TransactionCores x = new TransactionCores(3, 1, 1);
        for (int c = 0; c < 3; c++) {
            Words.does(x, c, Words.FAULT);
        }
        x.jump(1, 5);
        check.same("core 0", x.register(0, 8) + 100 * x.register(0, 10), 100);
        check.same("core 1", x.register(1, 8) + 100 * x.register(1, 10), 5);
        check.same("core 2", x.register(2, 8) + 100 * x.register(2, 10), 100);
    }

    private static void notInATransaction() {
        TransactionCores x = new TransactionCores(2, 1, 1);
        Words.put(x, 0, Words.begin(4), Words.begin(4), Words.END, Words.END);
        for (int k = 0; k < 3; k++) {
            x.step(0);
            check.throwing("in a transaction", IllegalStateException.class, () -> x.jump(0, 9));
            check.same("PC", x.register(0, 8), k + 1);
        }
        x.jump(1, 3);
        check.same("another core may", x.register(1, 8), 3);
        check.same("it goes on", x.step(0), 3);
        x.jump(0, 9);
        check.same("after it", x.register(0, 8), 9);
    }

    private static void wrongArguments() {
        TransactionCores x = new TransactionCores(2, 1, 1);
        Words.does(x, 0, Words.begin(4));
        for (int bad : new int[] {-1, 2, Integer.MIN_VALUE, Integer.MAX_VALUE}) {
            check.outOfBounds("core " + bad, () -> x.jump(bad, 0));
        }
        check.same("nothing was changed", x.register(0, 8), 1);
    }
}
