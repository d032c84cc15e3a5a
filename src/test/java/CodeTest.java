/** Promise 2: words of programs. */
public final class CodeTest {
    private static final Check check = new Check();
    private static final int[] NOT_THERE = {-1, Integer.MIN_VALUE, Integer.MAX_VALUE};

    public static void main(String[] args) {
        everyPlaceOfEveryCore();
        laterWordReplacesEarlier();
        wrongArguments();
        inATransaction();
        check.finish();
    }

    private static void everyPlaceOfEveryCore() {
        TransactionCores x = new TransactionCores(3, 1, 1);
        for (int c = 0; c < 3; c++) {
            for (int place = 0; place < 16; place++) {
                x.code(c, place, Words.set(place % 8, 100 * c + place));
            }
        }
        for (int c = 0; c < 3; c++) {
            for (int place = 0; place < 16; place++) {
                check.same("step", x.step(c), 4);
                check.same("what the word did", x.register(c, place % 8), 100 * c + place);
            }
            check.same("PC goes round", x.register(c, 8), 0);
        }
    }

    private static void laterWordReplacesEarlier() {
        TransactionCores x = new TransactionCores(1, 1, 1);
        x.code(0, 0, Words.set(1, 5));
        x.code(0, 0, Words.set(1, 6));
        x.step(0);
        check.same("the later word", x.register(0, 1), 6);
        x.code(0, 0, -1);
        x.jump(0, 0);
        check.same("any int is a word (-1 is of kind 15)", x.step(0), 0);
    }

    private static void wrongArguments() {
        TransactionCores x = new TransactionCores(2, 1, 1);
        Words.put(x, 0, Words.set(1, 5));
        for (int bad : NOT_THERE) {
            check.outOfBounds("core " + bad, () -> x.code(bad, 0, 1));
            check.outOfBounds("place " + bad, () -> x.code(0, bad, 1));
        }
        check.outOfBounds("core 2 of 2", () -> x.code(2, 0, Words.FAULT));
        check.outOfBounds("place 16", () -> x.code(0, 16, Words.FAULT));
        check.same("nothing was changed", x.step(0), 4);
        check.same("nothing was changed", x.register(0, 1), 5);
        for (int place = 1; place < 16; place++) {
            x.jump(0, place);
            check.same("nothing was changed", x.step(0), 1);
        }
    }

    /** A program is no part of what an abort undoes. */
    private static void inATransaction() {
        TransactionCores x = new TransactionCores(1, 1, 1);
        Words.put(x, 0, Words.begin(2));
        x.step(0);
        x.code(0, 1, Words.abort(0));
        x.code(0, 3, Words.set(2, 9));
        check.same("the abort", x.step(0), 2);
        check.same("at the fallback", x.step(0), 4);
        check.same("the word stayed", x.register(0, 2), 9);
    }
}
