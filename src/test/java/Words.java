/** Writes the words of programs, and puts them into cores. */
final class Words {
    static final int WAIT = 0;
    static final int END = 10;
    static final int FAULT = 14;

    private Words() {
    }

    static int word(int kind, int a, int b, int immediate) {
        return kind | a << 4 | b << 7 | immediate << 11;
    }

    static int set(int a, int immediate) {
        return word(1, a, 0, immediate);
    }

    static int add(int a, int b, int c) {
        return word(2, a, b, c);
    }

    static int subtract(int a, int b, int c) {
        return word(3, a, b, c);
    }

    static int and(int a, int b, int c) {
        return word(4, a, b, c);
    }

    static int load(int a, int b, int immediate) {
        return word(5, a, b, immediate);
    }

    static int store(int a, int b, int immediate) {
        return word(6, a, b, immediate);
    }

    static int ifZero(int a, int by) {
        return word(7, a, 0, by);
    }

    static int ifLess(int a, int b, int by) {
        return word(8, a, b, by);
    }

    static int begin(int fallback) {
        return word(9, 0, 0, fallback);
    }

    static int abort(int immediate) {
        return word(11, 0, 0, immediate);
    }

    static int depth(int a) {
        return word(12, a, 0, 0);
    }

    static int number(int a) {
        return word(13, a, 0, 0);
    }

    /** Puts the words from place 0 on. */
    static void put(TransactionCores x, int core, int... words) {
        for (int place = 0; place < words.length; place++) {
            x.code(core, place, words[place]);
        }
    }

    static void steps(TransactionCores x, int core, int count) {
        for (int k = 0; k < count; k++) {
            x.step(core);
        }
    }

    /** Puts the words from place 0 on and does each of them once, in their order. */
    static void does(TransactionCores x, int core, int... words) {
        put(x, core, words);
        steps(x, core, words.length);
    }

    /** Puts each word at the core's PC and does it. */
    static void goOn(TransactionCores x, int core, int... words) {
        for (int word : words) {
            x.code(core, x.register(core, 8), word);
            x.step(core);
        }
    }
}
