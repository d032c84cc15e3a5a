/** "Terms", AN ACCESS, under 2: when there are requests, and what they do to those that they meet. */
public final class RequestTest {
    private static final Check check = new Check();
    private static final int NEW_WORD = 9;
    private static final int OLD_WORD = 8;
    private static final String MARKS = "if the line has a write mark there, or is to be written and has any mark";

    public static void main(String[] args) {
        check.sentence("If no way has the line, or it is to be written and the way is not modified, there is a REQUEST",
                RequestTest::whenThereIsOne);
        check.sentence("(it is counted)", RequestTest::countedWhateverComesOfIt);
        check.sentence("Each other core that has the line", RequestTest::metByAllOthers);
        check.sentence("Each other core that has the line (a core that has not)", RequestTest::otherLinesAreNotMet);
        check.sentence(MARKS + " (no mark)", RequestTest::withoutMarks);
        check.sentence(MARKS + " (a read mark)", RequestTest::withReadMark);
        check.sentence(MARKS + " (a write mark)", RequestTest::withWriteMark);
        check.sentence(MARKS + " (both)", RequestTest::withBothMarks);
        check.sentence("If it has the line still and that is modified, the words go to memory.",
                RequestTest::modifiedGoesToMemory);
        check.sentence("If it has the line still (it has not)", RequestTest::writtenDoesNotGoToMemory);
        check.sentence("Then the way is shared if the request is to read, and invalid if it is to write.",
                RequestTest::sharedOrInvalid);
        check.finish();
    }

    /** Core 0 has, before its transaction, stored OLD_WORD in word 0 or not; then come these words. */
    private static TransactionCores met(boolean modified, int... words) {
        TransactionCores x = new TransactionCores(2, 1, 1);
        Words.does(x, 0, Words.set(1, OLD_WORD), modified ? Words.store(1, 0, 0) : Words.depth(3),
                Words.set(1, NEW_WORD));
        for (int k = 0; k < words.length; k++) {
            x.code(0, 3 + k, words[k]);
        }
        Words.steps(x, 0, words.length);
        return x;
    }

    private static void ask(TransactionCores x, boolean toWrite) {
        Words.does(x, 1, toWrite ? Words.store(0, 0, 1) : Words.load(2, 0, 1));
    }

    private static void due(TransactionCores x, String what, int aborts, int state, int marks, int memory) {
        check.same(what + ", conflicts", x.fate(0, 1), aborts);
        check.same(what + ", depth", x.register(0, 9), 1 - aborts);
        check.same(what + ", state", x.way(0, 0, 0, 0), state);
        check.same(what + ", marks", x.way(0, 0, 0, 2), marks);
        check.same(what + ", memory", x.memory(0), memory);
    }

    private static void whenThereIsOne() {
        TransactionCores x = new TransactionCores(2, 1, 2);
        int[] words = {Words.load(1, 0, 0), Words.load(1, 0, 1), Words.store(1, 0, 0), Words.store(1, 0, 1),
            Words.load(1, 0, 0), Words.store(1, 0, 2), Words.store(1, 0, 3), Words.load(1, 0, 4)};
        int[] due = {1, 1, 2, 2, 2, 3, 3, 4};
        for (int k = 0; k < words.length; k++) {
            x.code(0, k, words[k]);
            x.step(0);
            check.same("requests after word " + k, x.requests(), due[k]);
        }
        Words.does(x, 1, Words.load(1, 0, 2));
        check.same("of another core", x.requests(), 5);
        Words.put(x, 0, 0, 0, 0, 0, 0, 0, 0, 0, Words.store(1, 0, 2));
        x.step(0);
        check.same("a way that was modified and is shared now asks again", x.requests(), 6);
    }

    private static void countedWhateverComesOfIt() {
        TransactionCores x = new TransactionCores(2, 1, 1);
        Words.does(x, 0, Words.begin(0), Words.store(1, 0, 0));
        Words.does(x, 1, Words.begin(0), Words.load(1, 0, 0), Words.abort(0));
        check.same("both were aborted", x.fate(0, 1) + x.fate(1, 4), 2);
        check.same("both requests are counted", x.requests(), 2);
    }

    private static void metByAllOthers() {
        for (int asker = 0; asker < 3; asker++) {
            TransactionCores x = new TransactionCores(3, 1, 1);
            for (int c = 0; c < 3; c++) {
                Words.does(x, c, Words.begin(7 + c), Words.load(1, 0, 0));
            }
            x.code(asker, 2, Words.store(1, 0, 0));
            check.same("the one that asks", x.step(asker), 4);
            for (int c = 0; c < 3; c++) {
                check.same("conflicts of " + c, x.fate(c, 1), c == asker ? 0 : 1);
                check.same("PC of " + c, x.register(c, 8), c == asker ? 3 : 8 + c);
                check.same("state of " + c, x.way(c, 0, 0, 0), c == asker ? 2 : 0);
            }
        }
    }

    /** Lines 0 and 4 share a set, words 1 and 2 stand next to each other: neither is the line asked for. */
    private static void otherLinesAreNotMet() {
        TransactionCores x = new TransactionCores(2, 4, 2);
        Words.does(x, 0, Words.begin(0), Words.store(1, 0, 8), Words.store(1, 0, 2), Words.load(1, 0, 63));
        Words.does(x, 1, Words.store(1, 0, 0), Words.store(1, 0, 1), Words.load(1, 0, 4));
        check.same("no conflict", x.fate(0, 1), 0);
        check.same("depth", x.register(0, 9), 1);
        check.same("line 4", x.way(0, 0, 0, 2), 2);
        check.same("line 1", x.way(0, 1, 0, 2), 2);
        check.same("line 31", x.way(0, 3, 0, 2), 1);
    }

    private static void withoutMarks() {
        for (boolean modified : new boolean[] {false, true}) {
            int word = modified ? Words.depth(3) : Words.load(2, 0, 0);
            int memory = modified ? OLD_WORD : 0;
            TransactionCores read = met(modified, word, Words.begin(0));
            ask(read, false);
            due(read, "read", 0, 1, 0, memory);
            TransactionCores written = met(modified, word, Words.begin(0));
            ask(written, true);
            due(written, "written", 0, 0, -1, memory);
        }
    }

    private static void withReadMark() {
        for (boolean modified : new boolean[] {false, true}) {
            int memory = modified ? OLD_WORD : 0;
            TransactionCores read = met(modified, Words.begin(0), Words.load(2, 0, 0));
            ask(read, false);
            due(read, "read", 0, 1, 1, memory);
            TransactionCores written = met(modified, Words.begin(0), Words.load(2, 0, 0));
            ask(written, true);
            due(written, "written", 1, 0, -1, memory);
        }
    }

    private static void withWriteMark() {
        abortedByBoth(Words.begin(0), Words.store(1, 0, 0));
    }

    private static void withBothMarks() {
        abortedByBoth(Words.begin(0), Words.load(2, 0, 0), Words.store(1, 0, 0));
        abortedByBoth(Words.begin(0), Words.store(1, 0, 0), Words.load(2, 0, 0));
    }

    private static void abortedByBoth(int... words) {
        for (boolean modified : new boolean[] {false, true}) {
            for (boolean toWrite : new boolean[] {false, true}) {
                TransactionCores x = met(modified, words);
                ask(x, toWrite);
                due(x, toWrite ? "written" : "read", 1, 0, -1, modified ? OLD_WORD : 0);
                check.same("the one that asks is not aborted", x.fate(1, 1), 0);
            }
        }
    }

    private static void modifiedGoesToMemory() {
        TransactionCores x = met(true);
        ask(x, false);
        check.same("memory", x.memory(0), OLD_WORD);
        check.same("the asker's word", x.way(1, 0, 0, 3), OLD_WORD);
        TransactionCores y = met(true);
        ask(y, true);
        check.same("memory", y.memory(0), OLD_WORD);
        check.same("the asker's word", y.way(1, 0, 0, 3), OLD_WORD);
        TransactionCores z = met(true, Words.begin(0), Words.load(2, 0, 0));
        ask(z, true);
        check.same("aborted, but it has the line still", z.memory(0), OLD_WORD);
        check.same("the asker's word", z.way(1, 0, 0, 3), OLD_WORD);
    }

    /** The abort has made the written way invalid, so that its words are gone. */
    private static void writtenDoesNotGoToMemory() {
        for (boolean toWrite : new boolean[] {false, true}) {
            TransactionCores x = met(false, Words.begin(0), Words.store(1, 0, 0));
            ask(x, toWrite);
            check.same("memory", x.memory(0), 0);
            check.same("the asker's word", x.way(1, 0, 0, 3), 0);
            check.same("invalid, and not shared", x.way(0, 0, 0, 0), 0);
        }
    }

    private static void sharedOrInvalid() {
        for (boolean modified : new boolean[] {false, true}) {
            TransactionCores read = met(modified, Words.load(2, 0, 0));
            ask(read, false);
            check.same("read", read.way(0, 0, 0, 0), 1);
            check.same("its words stay", read.way(0, 0, 0, 3), modified ? OLD_WORD : 0);
            TransactionCores written = met(modified, Words.load(2, 0, 0));
            ask(written, true);
            check.same("written", written.way(0, 0, 0, 0), 0);
        }
    }
}
