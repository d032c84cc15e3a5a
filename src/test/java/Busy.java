import java.util.function.Consumer;

/**
 * An object in the midst of its work: each core has a transaction, with ways of every kind, and words still to do
 * that show what cannot be asked for: the programs, the fallbacks, the noted registers and the order of use.
 */
final class Busy {
    static final int N = 2;
    static final int SETS = 2;
    static final int WAYS = 2;

    private Busy() {
    }

    static TransactionCores make() {
        TransactionCores x = new TransactionCores(N, SETS, WAYS);
        Words.put(x, 0, Words.set(1, 5), Words.store(1, 0, 0), Words.load(2, 0, 4), Words.begin(5),
                Words.load(3, 0, 0), Words.store(1, 0, 2), Words.load(4, 0, 8), Words.abort(3), Words.WAIT,
                Words.load(5, 0, 12), Words.number(6), Words.FAULT);
        Words.put(x, 1, Words.set(1, 7), Words.load(2, 0, 6), Words.begin(6), Words.begin(2),
                Words.store(1, 0, 10), Words.depth(3), Words.load(4, 0, 14), Words.load(5, 0, 18), Words.WAIT,
                Words.load(6, 0, 22), Words.FAULT);
        x.run(0b01_01_01_01_01_00_00_00_00_00_00, 11);
        return x;
    }

    /** What the calls do to a busy object must not show, neither at once nor in what it does later. */
    static void undisturbed(Check check, String what, Consumer<TransactionCores> calls) {
        TransactionCores x = make();
        TransactionCores untouched = make();
        calls.accept(x);
        check.same(what, State.of(x, N, SETS, WAYS), State.of(untouched, N, SETS, WAYS));
        check.same(what + ", later", goOn(x), goOn(untouched));
    }

    private static String goOn(TransactionCores x) {
        StringBuilder text = new StringBuilder("steps");
        for (int k = 0; k < 12; k++) {
            text.append(' ').append(x.step(k % N));
        }
        for (int c = 0; c < N; c++) {
            x.jump(c, 0);
            for (int k = 0; k < 5; k++) {
                text.append(' ').append(x.step(c));
            }
        }
        return text.append("; ").append(State.ofCores(x, N, SETS, WAYS)).toString();
    }
}
