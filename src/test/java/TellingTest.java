/** Promises 8, 9, 10 and 12: register, fate, way and requests; what is not there stands in NotThereTest. */
public final class TellingTest {
    private static final Check check = new Check();

    public static void main(String[] args) {
        check.sentence("A register of a core", TellingTest::registers);
        check.sentence("8 its PC", TellingTest::pcOfEveryPlace);
        check.sentence("9 its depth", TellingTest::everyDepth);
        check.sentence("10 whether it has stopped (1 or 0)", TellingTest::stopped);
        check.sentence("How often the core's transactions were aborted for a cause; 0: how many committed",
                TellingTest::fates);
        check.sentence("its state (what = 0), line (1), marks (2: 1 READ, 2 WRITE, 3 both), its words (3, 4)",
                TellingTest::everyStateOfAWay);
        check.sentence("Of a way of a core's cache", TellingTest::everyWayOfEveryCore);
        check.sentence("for all but the state -1 if it is invalid (at first)", TellingTest::invalidAtFirst);
        check.sentence("for all but the state -1 if it is invalid (again)", TellingTest::invalidAgain);
        check.sentence("How many requests there were of cores.", TellingTest::requests);
        check.sentence("How many requests there were of cores. (of no one else)", TellingTest::requestsOfNoOneElse);
        check.finish();
    }

    private static void registers() {
        TransactionCores x = new TransactionCores(2, 1, 1);
        for (int r = 0; r < 8; r++) {
            x.code(1, r, Words.set(r, 20 - 5 * r));
        }
        x.run(0x55555555, 8);
        for (int r = 0; r < 8; r++) {
            check.same("register " + r, x.register(1, r), 20 - 5 * r);
            check.same("register " + r + " of the other", x.register(0, r), 0);
        }
    }

    private static void pcOfEveryPlace() {
        TransactionCores x = new TransactionCores(2, 1, 1);
        for (int place = 0; place < 16; place++) {
            x.jump(1, place);
            check.same("PC", x.register(1, 8), place);
            check.same("of the other", x.register(0, 8), 0);
        }
    }

    private static void everyDepth() {
        TransactionCores x = new TransactionCores(2, 1, 1);
        int[] words = {Words.begin(0), Words.begin(0), Words.begin(0), Words.END, Words.END, Words.END};
        int[] due = {1, 2, 3, 2, 1, 0};
        check.same("at first", x.register(1, 9), 0);
        for (int k = 0; k < words.length; k++) {
            Words.goOn(x, 1, words[k]);
            check.same("after word " + k, x.register(1, 9), due[k]);
            check.same("of the other", x.register(0, 9), 0);
        }
    }

    private static void stopped() {
        TransactionCores x = new TransactionCores(3, 1, 1);
        check.same("at first", x.register(1, 10), 0);
        Words.does(x, 1, Words.WAIT);
        check.same("a wait is no stop", x.register(1, 10), 0);
        Words.goOn(x, 1, Words.FAULT);
        check.same("stopped", x.register(1, 10), 1);
        x.step(1);
        check.same("stopped still", x.register(1, 10), 1);
        check.same("core 0 has not", x.register(0, 10), 0);
        check.same("core 2 has not", x.register(2, 10), 0);
        x.jump(1, 1);
        check.same("not any more", x.register(1, 10), 0);
        Words.goOn(x, 1, Words.begin(0), Words.FAULT);
        check.same("an abort is no stop", x.register(1, 10), 0);
    }

    /** Core 1 gets as many of each fate as the fate's number and one more. */
    private static void fates() {
        TransactionCores x = new TransactionCores(2, 1, 1);
        int[] last = {Words.END, Words.load(1, 0, 0), Words.load(1, 0, 2), Words.begin(0), Words.abort(9),
            Words.FAULT};
        Words.put(x, 1, Words.begin(0), Words.load(1, 0, 0), Words.begin(0), Words.begin(0));
        for (int fate = 5; fate >= 0; fate--) {
            x.code(1, fate == 0 ? 2 : 4, last[fate]);
            for (int times = 0; times <= fate; times++) {
                x.jump(1, 0);
                Words.steps(x, 1, fate == 0 ? 3 : 5);
                x.poke(0, 7);
            }
        }
        for (int fate = 0; fate <= 5; fate++) {
            check.same("fate " + fate, x.fate(1, fate), fate + 1);
            check.same("fate " + fate + " of the other", x.fate(0, fate), 0);
        }
    }

    private static void way(TransactionCores x, String what, int... due) {
        for (int k = 0; k < 5; k++) {
            check.same(what + ", what " + k, x.way(0, 0, 0, k), due[k]);
        }
    }

    /** Words that are -1 are no sign of an invalid way. */
    private static void everyStateOfAWay() {
        TransactionCores x = new TransactionCores(1, 1, 1);
        x.poke(62, -1);
        x.poke(63, Integer.MIN_VALUE);
        Words.does(x, 0, Words.load(1, 0, 63));
        way(x, "shared", 1, 31, 0, -1, Integer.MIN_VALUE);
        Words.goOn(x, 0, Words.begin(0), Words.load(1, 0, 62));
        way(x, "shared, read", 1, 31, 1, -1, Integer.MIN_VALUE);
        Words.goOn(x, 0, Words.store(1, 0, 63));
        way(x, "modified, both", 2, 31, 3, -1, -1);
        Words.goOn(x, 0, Words.END);
        way(x, "modified", 2, 31, 0, -1, -1);
        Words.goOn(x, 0, Words.begin(0), Words.load(1, 0, 62));
        way(x, "modified, read", 2, 31, 1, -1, -1);
        Words.goOn(x, 0, Words.END, Words.begin(0), Words.store(1, 0, 62));
        way(x, "modified, written", 2, 31, 2, -1, -1);
    }

    /** Every way of every core has a line of its own: the word it loads tells which. */
    private static void everyWayOfEveryCore() {
        TransactionCores x = new TransactionCores(3, 4, 3);
        for (int w = 0; w < 12; w++) {
            x.poke(2 * (4 * (w % 3) + w / 3), 500 + w);
        }
        for (int c = 0; c < 3; c++) {
            for (int w = 0; w < 12; w++) {
                int set = (w + c) % 4;
                int way = w / 4;
                Words.goOn(x, c, Words.load(1, 0, 2 * (4 * way + set)));
            }
        }
        for (int c = 0; c < 3; c++) {
            for (int w = 0; w < 12; w++) {
                check.same("line", x.way(c, w / 3, w % 3, 1), 4 * (w % 3) + w / 3);
                check.same("word", x.way(c, w / 3, w % 3, 3), 500 + w);
            }
        }
    }

    private static void invalidAtFirst() {
        TransactionCores x = new TransactionCores(2, 4, 3);
        for (int w = 0; w < 24; w++) {
            for (int what = 0; what < 5; what++) {
                check.same("what " + what, x.way(w / 12, w / 3 % 4, w % 3, what), what == 0 ? 0 : -1);
            }
        }
    }

    /** What the way held before must not show. */
    private static void invalidAgain() {
        TransactionCores poked = new TransactionCores(1, 1, 1);
        Words.does(poked, 0, Words.set(1, 5), Words.store(1, 0, 6), Words.store(1, 0, 7));
        way(poked, "before", 2, 3, 0, 5, 5);
        poked.poke(6, 1);
        way(poked, "after a poke", 0, -1, -1, -1, -1);
        TransactionCores aborted = new TransactionCores(1, 1, 1);
        Words.does(aborted, 0, Words.begin(3), Words.set(1, 5), Words.load(2, 0, 6), Words.store(1, 0, 6));
        way(aborted, "before", 2, 3, 3, 5, 0);
        Words.goOn(aborted, 0, Words.abort(0));
        way(aborted, "after an abort", 0, -1, -1, -1, -1);
        TransactionCores asked = new TransactionCores(2, 1, 1);
        Words.does(asked, 0, Words.begin(3), Words.load(1, 0, 6));
        way(asked, "before", 1, 3, 1, 0, 0);
        Words.does(asked, 1, Words.store(1, 0, 6));
        way(asked, "after another one's store", 0, -1, -1, -1, -1);
    }

    private static void requests() {
        TransactionCores x = new TransactionCores(3, 1, 1);
        check.same("none", x.requests(), 0);
        for (int c = 0; c < 3; c++) {
            Words.does(x, c, Words.load(1, 0, 0));
            check.same("of all cores", x.requests(), c + 1);
        }
        Words.goOn(x, 1, Words.store(1, 0, 0));
        check.same("to write", x.requests(), 4);
        Words.goOn(x, 1, Words.store(1, 0, 1), Words.load(1, 0, 0));
        check.same("no request, no count", x.requests(), 4);
    }

    private static void requestsOfNoOneElse() {
        TransactionCores x = new TransactionCores(2, 1, 1);
        Words.does(x, 0, Words.store(1, 0, 2));
        x.poke(2, 1);
        x.poke(40, 1);
        x.peek(2);
        x.memory(2);
        x.requests();
        check.same("only the store's", x.requests(), 1);
    }
}
