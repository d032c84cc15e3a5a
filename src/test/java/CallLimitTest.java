/** "What it is": an object keeps its promises for 512 calls. */
public final class CallLimitTest {
    private static final Check check = new Check();
    private static final String SENTENCE = "An object is used for at most 512 calls after it has been made";

    public static void main(String[] args) {
        check.sentence(SENTENCE + " (steps and commits)", CallLimitTest::commits);
        check.sentence(SENTENCE + " (requests and the order of use)", CallLimitTest::requests);
        check.sentence(SENTENCE + " (aborts)", CallLimitTest::aborts);
        check.sentence(SENTENCE + " (words of programs, pokes and jumps)", CallLimitTest::singleCalls);
        check.finish();
    }

    private static void fill(TransactionCores x, int core, int... words) {
        for (int place = 0; place < 16; place++) {
            x.code(core, place, words[place % words.length]);
        }
    }

    private static void commits() {
        TransactionCores x = new TransactionCores(1, 1, 1);
        fill(x, 0, Words.begin(0), Words.END);
        for (int call = 17; call <= 511; call++) {
            check.same("commits of call " + call, x.run(0, 16), 8);
        }
        check.same("the 512th call", x.fate(0, 0), 8 * 495);
    }

    /** Four lines by turns in two ways: none is there still when its turn comes, so every step asks. */
    private static void requests() {
        TransactionCores x = new TransactionCores(1, 1, 2);
        fill(x, 0, Words.load(1, 0, 0), Words.load(1, 0, 2), Words.load(1, 0, 4), Words.load(1, 0, 6));
        for (int call = 17; call <= 507; call++) {
            x.run(0, 16);
        }
        check.same("call 508", x.requests(), 16 * 491);
        check.same("call 509", x.way(0, 0, 0, 1), 2);
        check.same("call 510", x.way(0, 0, 1, 1), 3);
        check.same("call 511", x.step(0), 4);
        check.same("the 512th call", x.way(0, 0, 0, 1), 0);
    }

    private static void aborts() {
        TransactionCores x = new TransactionCores(1, 1, 1);
        fill(x, 0, Words.begin(1), Words.abort(255));
        for (int call = 17; call <= 510; call++) {
            x.run(0, 16);
        }
        check.same("call 511", x.fate(0, 4), 8 * 494);
        check.same("the 512th call", x.register(0, 7), 4 + 8 * 255);
    }

    private static void singleCalls() {
        TransactionCores x = new TransactionCores(1, 1, 1);
        for (int k = 0; k < 127; k++) {
            x.poke(k, k);
            x.jump(0, 3);
            x.code(0, 3, Words.load(1, 0, k));
            check.same("step", x.step(0), 4);
        }
        x.jump(0, 3);
        x.poke(126, 5000);
        check.same("call 511", x.step(0), 4);
        check.same("the 512th call", x.register(0, 1), 5000);
    }
}
