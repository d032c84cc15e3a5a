/** Promise 2: words of programs; places and cores that are not there stand in NotThereTest. */
public final class CodeTest {
    private static final Check check = new Check();

    public static void main(String[] args) {
        check.sentence("A word of a core's program.", CodeTest::everyPlaceOfEveryCore);
        check.sentence("A word of a core's program. (a later one in its place)", CodeTest::laterWordReplacesEarlier);
        check.sentence("A word of a core's program. (any word)", CodeTest::anyWord);
        check.sentence("A word of a core's program. (nothing else)", CodeTest::nothingElse);
        check.sentence("A word of a core's program. (an abort leaves it)", CodeTest::inATransaction);
        check.finish();
    }

    private static void everyPlaceOfEveryCore() {
        TransactionCores x = new TransactionCores(3, 1, 1);
        for (int c = 0; c < 3; c++) {
            for (int place = 0; place < 16; place++) {
                x.code(c, place, Words.set(place % 8, 100 * c + place));
            }
        }
        for (int c = 0; c < 3; c++) {
            for (int place = 0; place < 16; place++) {
                check.same("step", x.step(c), 4);
                check.same("what the word did", x.register(c, place % 8), 100 * c + place);
            }
            check.same("PC goes round", x.register(c, 8), 0);
        }
    }

    private static void laterWordReplacesEarlier() {
        TransactionCores x = new TransactionCores(1, 1, 1);
        x.code(0, 0, Words.set(1, 5));
        x.code(0, 0, Words.set(1, 6));
        x.step(0);
        check.same("the later word", x.register(0, 1), 6);
    }

    private static void anyWord() {
        TransactionCores x = new TransactionCores(1, 1, 1);
        int[][] rows = {{-1, 0}, {Integer.MAX_VALUE, 0}, {Integer.MIN_VALUE, 1}, {0, 1}, {15, 0}};
        for (int[] row : rows) {
            x.code(0, 7, row[0]);
            x.jump(0, 7);
            check.same("the step of word " + row[0], x.step(0), row[1]);
        }
    }

    /** A stopped core stays so, and a PC where it is. */
    private static void nothingElse() {
        TransactionCores x = new TransactionCores(1, 1, 1);
        Words.does(x, 0, Words.set(1, 5), Words.FAULT);
        x.code(0, 1, Words.set(1, 6));
        check.same("stopped", x.register(0, 10), 1);
        check.same("PC", x.register(0, 8), 1);
        check.same("register", x.register(0, 1), 5);
    }

    private static void inATransaction() {
        TransactionCores x = new TransactionCores(1, 1, 1);
        Words.does(x, 0, Words.begin(2));
        x.code(0, 1, Words.abort(0));
        x.code(0, 3, Words.set(2, 9));
        check.same("the abort", x.step(0), 2);
        check.same("at the fallback", x.step(0), 4);
        check.same("the word stayed", x.register(0, 2), 9);
    }
}
