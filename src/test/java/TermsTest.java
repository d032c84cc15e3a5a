/** "Terms", the paragraphs before the accesses: memory, lines, cores, PCs, sets and ways. */
public final class TermsTest {
    private static final Check check = new Check();
    private static final int LEAST = Integer.MIN_VALUE;
    private static final int GREATEST = Integer.MAX_VALUE;
    /** Addresses, and the word that each of them means. */
    private static final int[][] ADDRESSES = {{0, 0}, {63, 63}, {64, 0}, {65, 1}, {127, 63}, {128, 0}, {-1, 63},
        {-63, 1}, {-64, 0}, {-65, 63}, {LEAST, 0}, {LEAST + 5, 5}, {GREATEST, 63}, {GREATEST - 63, 0}};

    public static void main(String[] args) {
        check.sentence("MEMORY has WORDS 0 .. 63 (at first 0)", TermsTest::wordsOfMemory);
        check.sentence("of an address the lowest six bits count (poke)", TermsTest::sixBitsOfPoke);
        check.sentence("of an address the lowest six bits count (peek, memory)", TermsTest::sixBitsOfPeekAndMemory);
        check.sentence("of an address the lowest six bits count (load)", TermsTest::sixBitsOfLoad);
        check.sentence("of an address the lowest six bits count (store)", TermsTest::sixBitsOfStore);
        check.sentence("of an address the lowest six bits count (of the sum)", TermsTest::sixBitsOfASum);
        check.sentence("line l has the words 2 l and 2 l + 1 (0 .. 31)", TermsTest::wordsOfLines);
        check.sentence("Each has REGISTERS 0 .. 7 (at first 0)", TermsTest::registersOfEachCore);
        check.sentence("a PROGRAM of 16 WORDS (at first 0)", TermsTest::programsAtFirst);
        check.sentence("all reckoning with it is modulo 16 (steps)", TermsTest::stepsGoRound);
        check.sentence("all reckoning with it is modulo 16 (jumps)", TermsTest::jumpsGoRound);
        check.sentence("all reckoning with it is modulo 16 (fallbacks)", TermsTest::fallbacksGoRound);
        check.sentence("all reckoning with it is modulo 16 (as it was before, at 15)", TermsTest::staysAtTheLast);
        check.sentence("line l can only be in the ways of the set l modulo the number of sets (where)",
                TermsTest::setsOfLines);
        check.sentence("line l can only be in the ways of the set l modulo the number of sets (a full set)",
                TermsTest::fullSetBesideEmptyOnes);
        check.sentence("line l can only be in the ways of the set l modulo the number of sets (overflow)",
                TermsTest::overflowBesideEmptySets);
        check.sentence("A way is INVALID (0, at first)", TermsTest::waysAtFirst);
        check.sentence("which come only of transactions", TermsTest::marksOnlyOfTransactions);
        check.finish();
    }

    private static void wordsOfMemory() {
        TransactionCores x = new TransactionCores(1, 1, 1);
        for (int word = 0; word < 64; word++) {
            check.same("word " + word + " at first", x.memory(word), 0);
        }
        for (int word = 0; word < 64; word++) {
            x.poke(word, 1000 + word);
        }
        for (int word = 0; word < 64; word++) {
            check.same("word " + word, x.memory(word), 1000 + word);
        }
    }

    private static void sixBitsOfPoke() {
        for (int[] row : ADDRESSES) {
            TransactionCores x = new TransactionCores(1, 1, 1);
            x.poke(row[0], 7);
            for (int word = 0; word < 64; word++) {
                check.same("poked " + row[0] + ", word " + word, x.memory(word), word == row[1] ? 7 : 0);
            }
        }
    }

    private static void sixBitsOfPeekAndMemory() {
        for (int[] row : ADDRESSES) {
            TransactionCores x = new TransactionCores(1, 1, 1);
            Words.does(x, 0, Words.set(1, 9), Words.store(1, 0, row[1]));
            check.same("peek " + row[0], x.peek(row[0]), 9);
            check.same("memory " + row[0] + " behind the cache", x.memory(row[0]), 0);
            x.poke(row[1], 8);
            check.same("peek " + row[0], x.peek(row[0]), 8);
            check.same("memory " + row[0], x.memory(row[0]), 8);
        }
    }

    /** Word 20 brings any number into register 1. */
    private static TransactionCores withRegister1(int number) {
        TransactionCores x = new TransactionCores(1, 1, 3);
        x.poke(20, number);
        Words.does(x, 0, Words.load(1, 0, 20));
        return x;
    }

    private static void sixBitsOfLoad() {
        for (int[] row : ADDRESSES) {
            TransactionCores x = withRegister1(row[0]);
            x.poke(row[1], 77);
            x.code(0, 1, Words.load(2, 1, 0));
            x.step(0);
            check.same("loaded from " + row[0], x.register(0, 2), 77);
            check.same("the line", x.way(0, 0, 1, 1), row[1] / 2);
        }
    }

    private static void sixBitsOfStore() {
        for (int[] row : ADDRESSES) {
            TransactionCores x = withRegister1(row[0]);
            x.code(0, 1, Words.set(2, 77));
            x.code(0, 2, Words.store(2, 1, 0));
            x.run(0, 2);
            check.same("stored at " + row[0], x.peek(row[1]), 77);
            check.same("the other word of the line", x.peek(row[1] ^ 1), 0);
            check.same("the line", x.way(0, 0, 1, 1), row[1] / 2);
        }
    }

    private static void sixBitsOfASum() {
        int[][] rows = {{60, 4, 0}, {60, 3, 63}, {1, -2, 63}, {GREATEST, 1, 0}, {LEAST, -1, 63},
            {0, 1048575, 63}, {0, -1048576, 0}, {63, 1048575, 62}};
        for (int[] row : rows) {
            TransactionCores x = withRegister1(row[0]);
            x.poke(row[2], 77);
            x.code(0, 1, Words.load(2, 1, row[1]));
            x.step(0);
            check.same("loaded from " + row[0] + " + " + row[1], x.register(0, 2), 77);
        }
    }

    private static void wordsOfLines() {
        for (int line = 0; line < 32; line++) {
            TransactionCores x = new TransactionCores(1, 1, 3);
            x.poke(2 * line, 100 + line);
            x.poke(2 * line + 1, 200 + line);
            Words.does(x, 0, Words.load(1, 0, 2 * line), Words.load(2, 0, 2 * line + 1));
            check.same("both words are of one line", x.requests(), 1);
            check.same("line", x.way(0, 0, 0, 1), line);
            check.same("even word", x.way(0, 0, 0, 3), 100 + line);
            check.same("odd word", x.way(0, 0, 0, 4), 200 + line);
            Words.put(x, 0, Words.WAIT, Words.WAIT, Words.load(3, 0, 2 * line - 1), Words.load(3, 0, 2 * line + 2));
            x.run(0, 2);
            check.same("the word before it is of another line", x.way(0, 0, 1, 1), (line + 31) % 32);
            check.same("the word behind it is of another line", x.way(0, 0, 2, 1), (line + 1) % 32);
        }
    }

    private static void registersOfEachCore() {
        TransactionCores x = new TransactionCores(3, 1, 1);
        for (int c = 0; c < 3; c++) {
            for (int r = 0; r < 8; r++) {
                check.same("register " + r + " at first", x.register(c, r), 0);
                x.code(c, r, Words.set(r, 10 * c + r + 1));
            }
            Words.steps(x, c, 8);
        }
        for (int c = 0; c < 3; c++) {
            for (int r = 0; r < 8; r++) {
                check.same("register " + r + " of core " + c, x.register(c, r), 10 * c + r + 1);
            }
        }
    }

    /** The word 0 is a WAIT. */
    private static void programsAtFirst() {
        TransactionCores x = new TransactionCores(3, 1, 1);
        for (int c = 0; c < 3; c++) {
            check.same("PC at first", x.register(c, 8), 0);
            for (int place = 0; place < 16; place++) {
                x.jump(c, place);
                check.same("place " + place, x.step(c), 1);
            }
        }
    }

    private static void stepsGoRound() {
        TransactionCores x = new TransactionCores(1, 1, 1);
        for (int place = 0; place < 16; place++) {
            x.code(0, place, Words.set(1, 100 + place));
        }
        for (int k = 0; k < 33; k++) {
            check.same("PC before step " + k, x.register(0, 8), k % 16);
            x.step(0);
            check.same("did the word of its place", x.register(0, 1), 100 + k % 16);
        }
    }

    /** From a place, by an immediate, to a place. */
    private static final int[][] JUMPS = {{0, 0, 1}, {0, -1, 0}, {0, -2, 15}, {15, 0, 0}, {15, -1, 15}, {15, 1, 1},
        {14, 1, 0}, {14, 0, 15}, {10, 10, 5}, {3, 16, 4}, {3, -16, 4}, {0, 15, 0}, {0, 1048575, 0}, {0, -1048576, 1},
        {15, 1048575, 15}, {15, -1048576, 0}};

    private static void jumpsGoRound() {
        for (int[] row : JUMPS) {
            for (int word : new int[] {Words.ifZero(0, row[1]), Words.ifLess(0, 1, row[1])}) {
                TransactionCores x = new TransactionCores(1, 1, 1);
                Words.does(x, 0, Words.set(1, 1));
                x.jump(0, row[0]);
                x.code(0, row[0], word);
                x.step(0);
                check.same("from " + row[0] + " by " + row[1], x.register(0, 8), row[2]);
            }
        }
    }

    private static void fallbacksGoRound() {
        for (int[] row : JUMPS) {
            TransactionCores x = new TransactionCores(1, 1, 1);
            x.jump(0, row[0]);
            x.code(0, row[0], Words.begin(row[1]));
            x.code(0, (row[0] + 1) % 16, Words.abort(0));
            x.step(0);
            check.same("in the transaction", x.register(0, 8), (row[0] + 1) % 16);
            x.step(0);
            check.same("from " + row[0] + " by " + row[1], x.register(0, 8), row[2]);
        }
    }

    private static void staysAtTheLast() {
        TransactionCores x = new TransactionCores(1, 1, 1);
        x.jump(0, 15);
        check.same("waits", x.step(0), 1);
        check.same("at 15", x.register(0, 8), 15);
        x.code(0, 15, Words.END);
        check.same("stops", x.step(0), 0);
        check.same("at 15", x.register(0, 8), 15);
    }

    private static void setsOfLines() {
        for (int sets = 1; sets <= 4; sets *= 2) {
            for (int line = 0; line < 32; line++) {
                TransactionCores x = new TransactionCores(1, sets, 2);
                Words.does(x, 0, Words.load(0, 0, 2 * line + line % 2));
                for (int set = 0; set < sets; set++) {
                    check.same("line " + line + " of " + sets + " sets in set " + set, x.way(0, set, 0, 1),
                            set == line % sets ? line : -1);
                    check.same("second way", x.way(0, set, 1, 1), -1);
                }
            }
        }
    }

    /** One line more than its set has ways drives another one out, though all other sets are empty. */
    private static void fullSetBesideEmptyOnes() {
        for (int sets = 2; sets <= 4; sets *= 2) {
            for (int ways = 1; ways <= 3; ways++) {
                TransactionCores x = new TransactionCores(1, sets, ways);
                for (int k = 0; k <= ways; k++) {
                    x.code(0, k, Words.load(1, 0, 2 * (1 + k * sets)));
                }
                x.run(0, ways + 1);
                check.same("the last line", x.way(0, 1, 0, 1), 1 + ways * sets);
                for (int way = 0; way < ways; way++) {
                    check.same("set 0 is empty", x.way(0, 0, way, 0), 0);
                    check.same("the last set is empty, or the one", x.way(0, sets - 1, way, 0), sets == 2 ? 1 : 0);
                }
            }
        }
    }

    private static void overflowBesideEmptySets() {
        for (int sets = 1; sets <= 4; sets *= 2) {
            TransactionCores x = new TransactionCores(1, sets, 1);
            Words.put(x, 0, Words.begin(5), Words.load(1, 0, 0), Words.load(1, 0, 2 * sets));
            x.run(0, 2);
            check.same("overflow of " + sets + " sets", x.step(0), 2);
            TransactionCores y = new TransactionCores(1, sets, 1);
            Words.put(y, 0, Words.begin(5), Words.load(1, 0, 0), Words.load(1, 0, 2 * sets - 2));
            y.run(0, 2);
            check.same("none for the line before it", y.step(0), 4);
        }
    }

    private static void waysAtFirst() {
        TransactionCores x = new TransactionCores(3, 4, 3);
        for (int c = 0; c < 3; c++) {
            for (int w = 0; w < 12; w++) {
                check.same("state", x.way(c, w / 3, w % 3, 0), 0);
            }
        }
    }

    private static void marksOnlyOfTransactions() {
        TransactionCores x = new TransactionCores(1, 1, 2);
        Words.put(x, 0, Words.load(1, 0, 0), Words.store(1, 0, 2), Words.load(1, 0, 2), Words.store(1, 0, 0),
                Words.begin(2), Words.load(1, 0, 0), Words.END, Words.WAIT, Words.load(1, 0, 2));
        for (int k = 0; k < 4; k++) {
            x.step(0);
            check.same("the first way, after step " + k, Math.max(x.way(0, 0, 0, 2), 0), 0);
            check.same("the second way, after step " + k, Math.max(x.way(0, 0, 1, 2), 0), 0);
        }
        x.run(0, 3);
        check.same("committed", x.fate(0, 0), 1);
        x.jump(0, 8);
        x.step(0);
        check.same("after a transaction", x.way(0, 0, 0, 2), 0);
        check.same("after a transaction", x.way(0, 0, 1, 2), 0);
    }
}
