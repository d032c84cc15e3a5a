/** Promise 1: the sizes of a new object, and what it holds at first. */
public final class NewObjectTest {
    private static final Check check = new Check();
    private static final int[] WANTED =
            {Integer.MIN_VALUE, -5, -1, 0, 1, 2, 3, 4, 5, 7, 9, 100, Integer.MAX_VALUE};

    public static void main(String[] args) {
        for (int wanted : WANTED) {
            int near = wanted < 1 ? 1 : wanted > 3 ? 3 : wanted;
            check.same("cores for " + wanted, cores(new TransactionCores(wanted, 1, 1)), near);
            check.same("ways for " + wanted, ways(new TransactionCores(1, 1, wanted)), near);
            check.same("sets for " + wanted, sets(new TransactionCores(1, wanted, 1)), setsDue(wanted));
        }
        everySize();
        atFirst();
        linesLandInTheirSets();
        check.finish();
    }

    /** Of two equally near the lesser one: 3 sets are 2. */
    private static int setsDue(int wanted) {
        return wanted <= 1 ? 1 : wanted <= 3 ? 2 : 4;
    }

    private static void everySize() {
        for (int n = 1; n <= 3; n++) {
            for (int sets = 1; sets <= 4; sets *= 2) {
                for (int ways = 1; ways <= 3; ways++) {
                    TransactionCores x = new TransactionCores(n, sets, ways);
                    check.same("cores", cores(x), n);
                    check.same("sets", sets(x), sets);
                    check.same("ways", ways(x), ways);
                }
            }
        }
    }

    private static void atFirst() {
        TransactionCores x = new TransactionCores(3, 4, 3);
        for (int c = 0; c < 3; c++) {
            for (int r = 0; r <= 10; r++) {
                check.same("register " + r, x.register(c, r), 0);
            }
            for (int cause = 0; cause <= 5; cause++) {
                check.same("fate " + cause, x.fate(c, cause), 0);
            }
            for (int w = 0; w < 12; w++) {
                check.same("state", x.way(c, w / 3, w % 3, 0), 0);
            }
            for (int place = 0; place < 16; place++) {
                x.jump(c, place);
                check.same("word at " + place + " waits", x.step(c), 1);
            }
        }
        for (int address = 0; address < 64; address++) {
            check.same("memory", x.memory(address), 0);
            check.same("peek", x.peek(address), 0);
        }
        check.same("requests", x.requests(), 0);
    }

    private static void linesLandInTheirSets() {
        for (int sets = 1; sets <= 4; sets *= 2) {
            for (int line = 0; line < 32; line++) {
                TransactionCores x = new TransactionCores(1, sets, 2);
                Words.does(x, 0, Words.load(0, 0, 2 * line + line % 2));
                check.same("line " + line + " of " + sets + " sets", x.way(0, line % sets, 0, 1), line);
            }
        }
    }

    private static int cores(TransactionCores x) {
        return countThere(c -> x.register(c, 0));
    }

    private static int sets(TransactionCores x) {
        return countThere(s -> x.way(0, s, 0, 0));
    }

    private static int ways(TransactionCores x) {
        return countThere(w -> x.way(0, 0, w, 0));
    }

    private static int countThere(java.util.function.IntConsumer ask) {
        int there = 0;
        for (int k = 0; k < 10; k++) {
            try {
                ask.accept(k);
                there++;
            } catch (IndexOutOfBoundsException e) {
                return there;
            }
        }
        return there;
    }
}
