/** Promise 7: jumps from outside; cores that are not there stand in NotThereTest. */
public final class JumpTest {
    private static final Check check = new Check();
    private static final String REFUSED = "IllegalStateException if it has a transaction";

    public static void main(String[] args) {
        check.sentence("The core's PC becomes this, modulo 16", JumpTest::modulo);
        check.sentence("The core's PC becomes this (and nothing else)", JumpTest::onlyThePc);
        check.sentence("and it has not stopped", JumpTest::startsAgain);
        check.sentence("The core's PC (of no other core)", JumpTest::onlyThatCore);
        check.sentence(REFUSED, JumpTest::refusedAtEveryDepth);
        check.sentence(REFUSED + " (after it)", JumpTest::afterATransaction);
        check.sentence(REFUSED + " (another core's)", JumpTest::anotherCoresTransaction);
        check.sentence(REFUSED + " (all is as it was)", JumpTest::refusedJumpsDoNothing);
        check.finish();
    }

    private static void modulo() {
        TransactionCores x = new TransactionCores(1, 1, 1);
        int[][] rows = {{0, 0}, {15, 15}, {16, 0}, {17, 1}, {31, 15}, {32, 0}, {-1, 15}, {-15, 1}, {-16, 0}, {-17, 15},
            {1000, 8}, {Integer.MIN_VALUE, 0}, {Integer.MAX_VALUE, 15}, {Integer.MIN_VALUE + 3, 3}};
        for (int[] row : rows) {
            x.jump(0, row[0]);
            check.same("jump " + row[0], x.register(0, 8), row[1]);
        }
    }

    private static void onlyThePc() {
        TransactionCores x = new TransactionCores(1, 1, 1);
        Words.does(x, 0, Words.set(1, 4), Words.store(1, 0, 0));
        x.jump(0, 9);
        check.same("register", x.register(0, 1), 4);
        check.same("depth", x.register(0, 9), 0);
        check.same("way", x.way(0, 0, 0, 0), 2);
        check.same("the word there", x.step(0), 1);
    }

    private static void startsAgain() {
        TransactionCores x = new TransactionCores(1, 1, 1);
        Words.put(x, 0, Words.FAULT, Words.set(1, 4));
        check.same("stops", x.step(0), 0);
        x.jump(0, 1);
        check.same("not stopped", x.register(0, 10), 0);
        check.same("steps", x.step(0), 4);
        check.same("did it", x.register(0, 1), 4);
        x.jump(0, 0);
        check.same("stops again", x.step(0), 0);
        check.same("stopped", x.register(0, 10), 1);
        x.jump(0, x.register(0, 8));
        check.same("to where it is", x.register(0, 10), 0);
    }

    private static void onlyThatCore() {
        TransactionCores x = new TransactionCores(3, 1, 1);
        for (int c = 0; c < 3; c++) {
            Words.does(x, c, Words.FAULT);
        }
        x.jump(1, 5);
        check.same("core 0", x.register(0, 8) + 100 * x.register(0, 10), 100);
        check.same("core 1", x.register(1, 8) + 100 * x.register(1, 10), 5);
        check.same("core 2", x.register(2, 8) + 100 * x.register(2, 10), 100);
    }

    private static void refusedAtEveryDepth() {
        TransactionCores x = new TransactionCores(1, 1, 1);
        for (int depth = 1; depth <= 3; depth++) {
            Words.goOn(x, 0, Words.begin(4));
            check.same("depth", x.register(0, 9), depth);
            for (int pc : new int[] {0, 9, depth, -1, 16, Integer.MIN_VALUE, Integer.MAX_VALUE}) {
                check.throwing("to " + pc, IllegalStateException.class, () -> x.jump(0, pc));
            }
            check.same("PC", x.register(0, 8), depth);
        }
        Words.goOn(x, 0, Words.END, Words.END);
        check.throwing("with depth 1 again", IllegalStateException.class, () -> x.jump(0, 9));
    }

    private static void afterATransaction() {
        TransactionCores x = new TransactionCores(1, 1, 1);
        Words.does(x, 0, Words.begin(4), Words.END);
        x.jump(0, 9);
        check.same("after a commit", x.register(0, 8), 9);
        Words.goOn(x, 0, Words.begin(4), Words.abort(0));
        x.jump(0, 3);
        check.same("after an abort", x.register(0, 8), 3);
    }

    private static void anotherCoresTransaction() {
        TransactionCores x = new TransactionCores(3, 1, 1);
        Words.does(x, 0, Words.begin(4));
        Words.does(x, 2, Words.begin(4));
        x.jump(1, 3);
        check.same("another core may", x.register(1, 8), 3);
        check.throwing("core 0", IllegalStateException.class, () -> x.jump(0, 3));
        check.throwing("core 2", IllegalStateException.class, () -> x.jump(2, 3));
    }

    private static void refusedJumpsDoNothing() {
        Busy.undisturbed(check, "after refused jumps", x -> {
            for (int pc : new int[] {0, 9, 15, 16, -1}) {
                check.throwing("core 0", IllegalStateException.class, () -> x.jump(0, pc));
                check.throwing("core 1", IllegalStateException.class, () -> x.jump(1, pc));
            }
        });
    }
}
