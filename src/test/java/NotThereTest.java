import java.util.function.IntConsumer;

/** "Terms", the last sentence, in promises 2, 5, 7, 8, 9 and 10: arguments that name what is not there. */
public final class NotThereTest {
    private static final Check check = new Check();
    private static final int FAR_BELOW = Integer.MIN_VALUE;
    private static final int FAR_ABOVE = Integer.MAX_VALUE;
    private static final String SENTENCE =
            "All arguments that name what is not there throw an IndexOutOfBoundsException";

    public static void main(String[] args) {
        check.sentence(SENTENCE + " (code)", NotThereTest::code);
        check.sentence(SENTENCE + " (step)", NotThereTest::step);
        check.sentence(SENTENCE + " (jump)", NotThereTest::jump);
        check.sentence(SENTENCE + " (register)", NotThereTest::register);
        check.sentence(SENTENCE + " (fate)", NotThereTest::fate);
        check.sentence(SENTENCE + " (way)", NotThereTest::way);
        check.sentence(SENTENCE + " (way, one that is not invalid)", NotThereTest::wayThatIsFilled);
        check.sentence("and leave all as it was", NotThereTest::leaveAllAsItWas);
        check.sentence("and leave all as it was (a stopped core)", NotThereTest::leaveStopped);
        check.sentence(SENTENCE + " (words, addresses, PCs and orders are always there)", NotThereTest::alwaysThere);
        check.finish();
    }

    /** Of an argument only 0 .. bound - 1 are there. */
    private static void only(int bound, String what, IntConsumer call) {
        for (int bad : new int[] {-1, -2, -bound, FAR_BELOW, bound, bound + 1, 2 * bound, FAR_ABOVE}) {
            check.outOfBounds(what + " " + bad + " of " + bound, () -> call.accept(bad));
        }
        for (int good = 0; good < bound; good++) {
            call.accept(good);
        }
    }

    private static void code() {
        for (int n = 1; n <= 3; n++) {
            TransactionCores x = new TransactionCores(n, 1, 1);
            int last = n - 1;
            only(n, "core", c -> x.code(c, 0, 1));
            only(n, "core", c -> x.code(c, 15, 1));
            only(16, "place", place -> x.code(last, place, 1));
            check.outOfBounds("core and place", () -> x.code(-1, 16, 1));
        }
    }

    private static void step() {
        for (int n = 1; n <= 3; n++) {
            TransactionCores x = new TransactionCores(n, 1, 1);
            only(n, "core", x::step);
        }
    }

    private static void jump() {
        for (int n = 1; n <= 3; n++) {
            TransactionCores x = new TransactionCores(n, 1, 1);
            int beyond = n;
            only(n, "core", c -> x.jump(c, 0));
            for (int c = 0; c < n; c++) {
                Words.does(x, c, Words.begin(0));
            }
            check.outOfBounds("core -1, all in a transaction", () -> x.jump(-1, 0));
            check.outOfBounds("core " + n + ", all in a transaction", () -> x.jump(beyond, 0));
        }
    }

    private static void register() {
        for (int n = 1; n <= 3; n++) {
            TransactionCores x = new TransactionCores(n, 1, 1);
            int last = n - 1;
            only(n, "core", c -> x.register(c, 0));
            only(n, "core", c -> x.register(c, 10));
            only(11, "register", r -> x.register(last, r));
        }
    }

    private static void fate() {
        for (int n = 1; n <= 3; n++) {
            TransactionCores x = new TransactionCores(n, 1, 1);
            int last = n - 1;
            only(n, "core", c -> x.fate(c, 0));
            only(n, "core", c -> x.fate(c, 5));
            only(6, "cause", cause -> x.fate(last, cause));
        }
    }

    private static void way() {
        for (int n = 1; n <= 3; n++) {
            for (int sets = 1; sets <= 4; sets *= 2) {
                for (int ways = 1; ways <= 3; ways++) {
                    wayOf(new TransactionCores(n, sets, ways), n, sets, ways);
                }
            }
        }
    }

    private static void wayOf(TransactionCores x, int n, int sets, int ways) {
        only(n, "core", c -> x.way(c, sets - 1, ways - 1, 4));
        only(sets, "set", set -> x.way(n - 1, set, ways - 1, 4));
        only(ways, "way", way -> x.way(n - 1, sets - 1, way, 4));
        only(ways, "way of the first set", way -> x.way(n - 1, 0, way, 0));
        only(5, "what", what -> x.way(n - 1, sets - 1, ways - 1, what));
    }

    private static void wayThatIsFilled() {
        TransactionCores x = new TransactionCores(1, 1, 1);
        Words.does(x, 0, Words.load(1, 0, 0));
        check.same("shared", x.way(0, 0, 0, 0), 1);
        only(5, "what", what -> x.way(0, 0, 0, what));
    }

    private static void leaveAllAsItWas() {
        Busy.undisturbed(check, "after refused calls", x -> {
            for (int bad : new int[] {-1, 2, FAR_BELOW, FAR_ABOVE}) {
                check.outOfBounds("code", () -> x.code(bad, 0, Words.FAULT));
                check.outOfBounds("step", () -> x.step(bad));
                check.outOfBounds("jump", () -> x.jump(bad, 14));
                check.outOfBounds("register", () -> x.register(bad, 0));
                check.outOfBounds("fate", () -> x.fate(bad, 0));
                check.outOfBounds("way", () -> x.way(bad, 0, 0, 0));
                check.outOfBounds("way", () -> x.way(0, bad, 0, 0));
                check.outOfBounds("way", () -> x.way(0, 0, bad, 0));
            }
            for (int bad : new int[] {-1, 16, FAR_BELOW, FAR_ABOVE}) {
                check.outOfBounds("code", () -> x.code(0, bad, Words.FAULT));
                check.outOfBounds("code", () -> x.code(1, bad, Words.FAULT));
                check.outOfBounds("register", () -> x.register(0, bad));
                check.outOfBounds("fate", () -> x.fate(0, bad));
                check.outOfBounds("way", () -> x.way(0, 0, 0, bad));
            }
        });
    }

    private static void leaveStopped() {
        TransactionCores x = new TransactionCores(1, 1, 1);
        Words.does(x, 0, Words.FAULT);
        check.outOfBounds("jump", () -> x.jump(1, 3));
        check.outOfBounds("jump", () -> x.jump(-1, 3));
        check.same("stopped still", x.register(0, 10), 1);
        check.same("where it was", x.register(0, 8), 0);
    }

    private static void alwaysThere() {
        TransactionCores x = new TransactionCores(1, 1, 1);
        for (int any : new int[] {-1, 16, 64, FAR_BELOW, FAR_ABOVE}) {
            x.poke(any, any);
            check.same("peek", x.peek(any), any);
            check.same("memory", x.memory(any), any);
            x.code(0, 0, any);
            x.jump(0, any);
            check.same("PC", x.register(0, 8), Math.floorMod(any, 16));
            check.same("run", x.run(any, 0), 0);
        }
    }
}
