/** Promise 5, with "Terms", A STEP: what each kind of word does, and what the step answers. */
public final class StepKindsTest {
    private static final Check check = new Check();
    private static final int LEAST = Integer.MIN_VALUE;
    private static final int GREATEST = Integer.MAX_VALUE;

    public static void main(String[] args) {
        check.sentence("A STEP of a core that has not STOPPED does the word of its program at PC",
                StepKindsTest::stoppedDoesNothing);
        check.sentence("three bits A, three bits B (registers)", StepKindsTest::everyPairOfRegisters);
        check.sentence("one bit of no meaning", StepKindsTest::theBitWithoutMeaning);
        check.sentence("the upper 21 bits IMMEDIATE, with sign", StepKindsTest::immediates);
        check.sentence("C is the register of the immediate's lowest three bits", StepKindsTest::lowestThreeBits);
        check.sentence("The PC is one more before the word is done (so jumps count from the next one)",
                StepKindsTest::jumpsCountFromTheNext);
        check.sentence("WAIT: the PC is as it was before", StepKindsTest::waits);
        check.sentence("2 A = B + C. 3 A = B - C. 4 A = B and C, bit by bit.", StepKindsTest::reckoning);
        check.sentence("2 A = B + C. 3 A = B - C (wrap-around)", StepKindsTest::reckoningWraps);
        check.sentence("2 A = B + C. 3 A = B - C (A is one of them)", StepKindsTest::sameRegisters);
        check.sentence("5 LOAD: A = the word at B + immediate. 6 STORE: the word at B + immediate = A.",
                StepKindsTest::loadAndStore);
        check.sentence("7 if A is 0, PC = PC + immediate", StepKindsTest::jumpsIfZero);
        check.sentence("8 if A is less than B, likewise", StepKindsTest::jumpsIfLess);
        check.sentence("12 A = the depth. 13 A = the core's number.", StepKindsTest::depthAndNumber);
        check.sentence("0 it has stopped before, or is stopped now", StepKindsTest::answersStopped);
        check.sentence("1 it waits", StepKindsTest::answersWaiting);
        check.sentence("2 its own transaction was aborted", StepKindsTest::answersAborted);
        check.sentence("2 its own transaction was aborted (another one's was)", StepKindsTest::answersOfOthersAborts);
        check.sentence("3 it committed, 4 else", StepKindsTest::answersCommitted);
        check.finish();
    }

    private static TransactionCores one(int... words) {
        TransactionCores x = new TransactionCores(1, 1, 1);
        Words.put(x, 0, words);
        return x;
    }

    /** Registers 1 and 2 are these, whatever their size. */
    private static TransactionCores withRegisters(int one, int two) {
        TransactionCores x = new TransactionCores(1, 1, 1);
        x.poke(0, one);
        x.poke(1, two);
        Words.does(x, 0, Words.load(1, 0, 0), Words.load(2, 0, 1));
        return x;
    }

    private static void stoppedDoesNothing() {
        TransactionCores x = one(Words.set(1, 2), Words.FAULT);
        x.run(0, 2);
        x.code(0, 1, Words.set(1, 3));
        for (int k = 0; k < 3; k++) {
            check.same("step", x.step(0), 0);
            check.same("run", x.run(0, 16), 0);
            check.same("the register", x.register(0, 1), 2);
            check.same("PC", x.register(0, 8), 1);
        }
    }

    private static void everyPairOfRegisters() {
        for (int a = 0; a < 8; a++) {
            for (int b = 0; b < 8; b++) {
                TransactionCores x = new TransactionCores(1, 1, 1);
                for (int r = 0; r < 8; r++) {
                    x.code(0, r, Words.set(r, 1 << r));
                }
                x.code(0, 8, Words.add(a, b, 0));
                x.run(0, 9);
                for (int r = 0; r < 8; r++) {
                    check.same("register " + r + " of A " + a + ", B " + b, x.register(0, r),
                            r == a ? (1 << b) + 1 : 1 << r);
                }
            }
        }
    }

    private static void theBitWithoutMeaning() {
        TransactionCores x = one(Words.set(7, 3) | 1 << 10, Words.add(6, 7, 7) | 1 << 10, 1 << 10);
        x.run(0, 2);
        check.same("set", x.register(0, 7), 3);
        check.same("add", x.register(0, 6), 6);
        check.same("wait", x.step(0), 1);
    }

    private static void immediates() {
        int[] values = {0, 1, -1, 1048575, -1048576, 1048574, -1048575, 12345, -54321};
        for (int value : values) {
            for (int a = 0; a < 8; a++) {
                TransactionCores x = one(Words.set(a, value));
                check.same("step", x.step(0), 4);
                for (int r = 0; r < 8; r++) {
                    check.same("register " + r, x.register(0, r), r == a ? value : 0);
                }
                check.same("PC", x.register(0, 8), 1);
            }
        }
        TransactionCores x = one(Words.set(1, 1 << 20));
        x.step(0);
        check.same("the 21st bit is the sign", x.register(0, 1), -1048576);
    }

    private static void lowestThreeBits() {
        for (int immediate : new int[] {0, 7, 8, 9, 15, -1, -8, -7, 1048575, -1048576}) {
            TransactionCores x = new TransactionCores(1, 1, 1);
            for (int r = 0; r < 8; r++) {
                x.code(0, r, Words.set(r, 1 << r));
            }
            x.code(0, 8, Words.subtract(1, 0, immediate));
            x.run(0, 9);
            check.same("C of " + immediate, 1 - x.register(0, 1), 1 << Math.floorMod(immediate, 8));
        }
    }

    private static void jumpsCountFromTheNext() {
        for (int[] row : new int[][] {{0, 6}, {1, 7}, {-1, 5}, {-2, 4}, {4, 10}}) {
            TransactionCores x = new TransactionCores(1, 1, 1);
            x.jump(0, 5);
            Words.goOn(x, 0, Words.ifZero(0, row[0]));
            check.same("by " + row[0], x.register(0, 8), row[1]);
            TransactionCores y = new TransactionCores(1, 1, 1);
            y.jump(0, 5);
            Words.goOn(y, 0, Words.begin(row[0]), Words.abort(0));
            check.same("fallback by " + row[0], y.register(0, 8), row[1]);
        }
    }

    private static void waits() {
        TransactionCores x = one(Words.set(1, 3), Words.word(0, 7, 7, -1), Words.set(1, 4));
        x.step(0);
        for (int k = 0; k < 3; k++) {
            x.step(0);
            check.same("PC", x.register(0, 8), 1);
            check.same("register", x.register(0, 1), 3);
            check.same("register 7", x.register(0, 7), 0);
            check.same("not stopped", x.register(0, 10), 0);
        }
    }

    private static void reckoning() {
        int[][] pairs = {{5, 3}, {3, 5}, {-7, 12}, {1048575, -1048576}, {0, 0}, {-1, 6}, {LEAST, GREATEST}};
        for (int[] pair : pairs) {
            TransactionCores x = withRegisters(pair[0], pair[1]);
            Words.goOn(x, 0, Words.add(3, 1, 2), Words.subtract(4, 1, 2), Words.and(5, 1, 2));
            check.same("sum", x.register(0, 3), pair[0] + pair[1]);
            check.same("difference", x.register(0, 4), pair[0] - pair[1]);
            check.same("and", x.register(0, 5), pair[0] & pair[1]);
        }
    }

    private static void reckoningWraps() {
        TransactionCores x = withRegisters(GREATEST, 1);
        Words.goOn(x, 0, Words.add(3, 1, 2), Words.subtract(4, 3, 2));
        check.same("over the greatest", x.register(0, 3), LEAST);
        check.same("under the least", x.register(0, 4), GREATEST);
        TransactionCores y = withRegisters(0, LEAST);
        Words.goOn(y, 0, Words.subtract(3, 1, 2), Words.add(4, 2, 2));
        check.same("0 less the least", y.register(0, 3), LEAST);
        check.same("twice the least", y.register(0, 4), 0);
    }

    private static void sameRegisters() {
        TransactionCores x = withRegisters(40, 2);
        Words.goOn(x, 0, Words.add(1, 1, 2));
        check.same("A is B", x.register(0, 1), 42);
        Words.goOn(x, 0, Words.subtract(2, 1, 2));
        check.same("A is C", x.register(0, 2), 40);
        Words.goOn(x, 0, Words.subtract(1, 1, 1));
        check.same("all the same", x.register(0, 1), 0);
    }

    private static void loadAndStore() {
        TransactionCores x = new TransactionCores(1, 2, 2);
        x.poke(9, 900);
        Words.put(x, 0, Words.set(1, 4), Words.load(2, 1, 5), Words.store(2, 1, -3), Words.load(1, 1, -67),
                Words.store(0, 0, 63), Words.load(3, 0, -63));
        for (int k = 0; k < 6; k++) {
            check.same("step", x.step(0), 4);
        }
        check.same("load at B + immediate", x.register(0, 2), 900);
        check.same("store at B + immediate", x.peek(1), 900);
        check.same("a load may fill its own B, from 4 - 67 = 1", x.register(0, 1), 900);
        check.same("load from -63 = 1", x.register(0, 3), 900);
        check.same("PC", x.register(0, 8), 6);
    }

    private static void jumpsIfZero() {
        for (int[] row : new int[][] {{0, 5}, {1, 3}, {-1, 3}, {LEAST, 3}, {GREATEST, 3}, {16, 3}}) {
            TransactionCores x = withRegisters(row[0], 0);
            Words.goOn(x, 0, Words.ifZero(1, 2));
            check.same("A is " + row[0], x.register(0, 8), row[1]);
        }
    }

    private static void jumpsIfLess() {
        int[][] rows = {{1, 2, 5}, {2, 2, 3}, {3, 2, 3}, {-1, 0, 5}, {0, -1, 3}, {0, 0, 3}, {LEAST, GREATEST, 5},
            {GREATEST, LEAST, 3}, {LEAST, LEAST, 3}, {GREATEST - 1, GREATEST, 5}, {LEAST, 1, 5}, {1, LEAST, 3}};
        for (int[] row : rows) {
            TransactionCores x = withRegisters(row[0], row[1]);
            Words.goOn(x, 0, Words.ifLess(1, 2, 2));
            check.same(row[0] + " less than " + row[1], x.register(0, 8), row[2]);
        }
    }

    private static void depthAndNumber() {
        TransactionCores x = new TransactionCores(3, 1, 1);
        for (int c = 0; c < 3; c++) {
            Words.does(x, c, Words.set(5, -1), Words.depth(5), Words.begin(0), Words.depth(1), Words.begin(0),
                    Words.depth(2), Words.begin(0), Words.depth(3), Words.number(4));
            check.same("depth 0", x.register(c, 5), 0);
            check.same("depth 1", x.register(c, 1), 1);
            check.same("depth 2", x.register(c, 2), 2);
            check.same("depth 3", x.register(c, 3), 3);
            check.same("number", x.register(c, 4), c);
        }
    }

    private static void answersStopped() {
        for (int word : new int[] {Words.END, 14, 15}) {
            TransactionCores x = one(word);
            check.same("is stopped now", x.step(0), 0);
            check.same("has stopped before", x.step(0), 0);
            x.code(0, 0, Words.set(1, 1));
            check.same("has stopped before, with another word", x.step(0), 0);
        }
    }

    private static void answersWaiting() {
        TransactionCores x = one();
        check.same("waits", x.step(0), 1);
        check.same("waits again", x.step(0), 1);
        x.code(0, 0, Words.begin(0));
        x.step(0);
        check.same("waits in a transaction", x.step(0), 1);
        check.same("depth", x.register(0, 9), 1);
    }

    private static void answersAborted() {
        int[] words = {Words.load(1, 0, 2), Words.store(1, 0, 2), Words.begin(0), Words.abort(0), Words.FAULT, 15};
        for (int word : words) {
            TransactionCores x = one(Words.begin(0), Words.begin(0), Words.begin(0), Words.load(1, 0, 0), word);
            x.run(0, 4);
            check.same("word " + word, x.step(0), 2);
        }
    }

    private static void answersOfOthersAborts() {
        TransactionCores x = new TransactionCores(2, 1, 1);
        Words.does(x, 0, Words.begin(4), Words.load(1, 0, 0));
        Words.put(x, 1, Words.begin(4), Words.store(1, 0, 0));
        x.step(1);
        check.same("the one that asks", x.step(1), 4);
        check.same("a conflict", x.fate(0, 1), 1);
        check.same("the one that was aborted between its steps", x.step(0), 1);
    }

    private static void answersCommitted() {
        TransactionCores x = one(Words.abort(3), Words.begin(9), Words.begin(4), Words.END, Words.END,
                Words.set(1, 1), Words.ifZero(0, 0), Words.load(1, 0, 0), Words.store(1, 0, 0));
        int[] due = {4, 4, 4, 4, 3, 4, 4, 4, 4};
        for (int k = 0; k < due.length; k++) {
            check.same("step " + k, x.step(0), due[k]);
            check.same("PC after " + k, x.register(0, 8), k + 1);
        }
    }
}
