/** Promises 8, 9, 10 and 12: register, fate, way and requests. */
public final class TellingTest {
    private static final Check check = new Check();
    private static final int[] FAR = {-1, Integer.MIN_VALUE, Integer.MAX_VALUE};

    public static void main(String[] args) {
        registers();
        fates();
        ways();
        requests();
        wrongArguments();
        check.finish();
    }

    private static void registers() {
        TransactionCores x = new TransactionCores(2, 1, 1);
        for (int r = 0; r < 8; r++) {
            x.code(1, r, Words.set(r, 20 - 5 * r));
        }
        x.code(1, 8, Words.begin(3));
        x.code(1, 9, Words.begin(3));
        x.run(0x55555555, 10);
        for (int r = 0; r < 8; r++) {
            check.same("register " + r, x.register(1, r), 20 - 5 * r);
            check.same("register " + r + " of the other", x.register(0, r), 0);
        }
        check.same("PC", x.register(1, 8), 10);
        check.same("depth", x.register(1, 9), 2);
        check.same("not stopped", x.register(1, 10), 0);
        Words.does(x, 0, Words.FAULT);
        check.same("stopped", x.register(0, 10), 1);
        check.same("the other is not", x.register(1, 10), 0);
    }

    /** Core 1 gets as many of each fate as the fate's number and one more. */
    private static void fates() {
        TransactionCores x = new TransactionCores(2, 1, 1);
        int[] last = {Words.END, Words.load(1, 0, 0), Words.load(1, 0, 2), Words.begin(0), Words.abort(9),
            Words.FAULT};
        for (int fate = 0; fate <= 5; fate++) {
            for (int times = 0; times <= fate; times++) {
                Words.put(x, 1, Words.begin(0), Words.load(1, 0, 0), Words.begin(0), Words.begin(0));
                x.code(1, fate == 0 ? 2 : 4, last[fate]);
                x.jump(1, 0);
                Words.steps(x, 1, fate == 0 ? 3 : 5);
                x.poke(0, 7);
            }
        }
        for (int fate = 0; fate <= 5; fate++) {
            check.same("fate " + fate, x.fate(1, fate), fate + 1);
            check.same("fate " + fate + " of the other", x.fate(0, fate), 0);
        }
    }

    private static void ways() {
        TransactionCores x = new TransactionCores(2, 4, 3);
        x.poke(22, -5);
        x.poke(23, 99);
        Words.does(x, 1, Words.load(1, 0, 6), Words.load(2, 0, 22), Words.begin(0), Words.load(3, 0, 22),
                Words.store(1, 0, 22));
        int[] due = {2, 11, 3, 0, 99};
        for (int what = 0; what < 5; what++) {
            check.same("what " + what, x.way(1, 3, 1, what), due[what]);
            check.same("invalid, what " + what, x.way(1, 3, 2, what), what == 0 ? 0 : -1);
            check.same("of the other core, what " + what, x.way(0, 3, 1, what), what == 0 ? 0 : -1);
        }
        check.same("a shared one", x.way(1, 3, 0, 0), 1);
        check.same("without marks", x.way(1, 3, 0, 2), 0);
    }

    private static void requests() {
        TransactionCores x = new TransactionCores(2, 1, 1);
        check.same("none", x.requests(), 0);
        Words.put(x, 0, Words.load(1, 0, 0), Words.load(1, 0, 1), Words.store(1, 0, 0), Words.store(1, 0, 1),
                Words.load(1, 0, 0), Words.store(1, 0, 2));
        int[] due = {1, 1, 2, 2, 2, 3};
        for (int k = 0; k < due.length; k++) {
            x.step(0);
            check.same("after step " + k, x.requests(), due[k]);
        }
        x.poke(2, 1);
        x.peek(2);
        x.memory(2);
        check.same("from outside none", x.requests(), 3);
        Words.does(x, 1, Words.load(1, 0, 2));
        check.same("of all cores", x.requests(), 4);
    }

    private static void wrongArguments() {
        TransactionCores x = new TransactionCores(2, 2, 2);
        for (int bad : FAR) {
            check.outOfBounds("register", () -> x.register(bad, 0));
            check.outOfBounds("register", () -> x.register(0, bad));
            check.outOfBounds("fate", () -> x.fate(bad, 0));
            check.outOfBounds("fate", () -> x.fate(0, bad));
            check.outOfBounds("way", () -> x.way(bad, 0, 0, 0));
            check.outOfBounds("way", () -> x.way(0, bad, 0, 0));
            check.outOfBounds("way", () -> x.way(0, 0, bad, 0));
            check.outOfBounds("way", () -> x.way(0, 0, 0, bad));
        }
        check.outOfBounds("register", () -> x.register(2, 0));
        check.outOfBounds("register", () -> x.register(0, 11));
        check.outOfBounds("fate", () -> x.fate(2, 0));
        check.outOfBounds("fate", () -> x.fate(0, 6));
        check.outOfBounds("way", () -> x.way(2, 0, 0, 0));
        check.outOfBounds("way", () -> x.way(0, 2, 0, 0));
        check.outOfBounds("way", () -> x.way(0, 0, 2, 0));
        check.outOfBounds("way", () -> x.way(0, 0, 0, 5));
        check.same("the last ones that are there", x.way(1, 1, 1, 4), -1);
    }
}
