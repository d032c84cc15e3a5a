/** Promises 4 and 11: what a load would find, and what stands in memory itself. */
public final class PeekMemoryTest {
    private static final Check check = new Check();
    private static final String FOUND = "the word of the way that is modified and has no write mark";

    public static void main(String[] args) {
        check.sentence("What a load by a core that has no transaction and not got the line would find",
                PeekMemoryTest::findsWhatALoadWould);
        check.sentence("without disturbing anything (a peek)", PeekMemoryTest::peekDisturbsNothing);
        check.sentence("without disturbing anything (the order of use)", PeekMemoryTest::peekIsNoUse);
        check.sentence(FOUND, PeekMemoryTest::modified);
        check.sentence(FOUND + " (a way that is shared)", PeekMemoryTest::shared);
        check.sentence(FOUND + " (a write mark)", PeekMemoryTest::written);
        check.sentence(FOUND + " (a read mark)", PeekMemoryTest::modifiedWithReadMark);
        check.sentence(FOUND + " (both marks)", PeekMemoryTest::modifiedWithBothMarks);
        check.sentence("or else of memory", PeekMemoryTest::elseOfMemory);
        check.sentence("A word as it is in memory itself.", PeekMemoryTest::memoryIsBehindTheCaches);
        check.sentence("A word as it is in memory itself. (asking changes nothing)",
                PeekMemoryTest::memoryDisturbsNothing);
        check.finish();
    }

    /** Core 2 has nothing and no transaction: it loads what was peeked, of every word. */
    private static void findsWhatALoadWould() {
        for (int address = 0; address < 12; address++) {
            TransactionCores x = new TransactionCores(3, 2, 2);
            for (int word = 0; word < 12; word++) {
                x.poke(word, 100 + word);
            }
            Words.does(x, 0, Words.set(1, 5), Words.store(1, 0, 0), Words.store(1, 0, 2), Words.begin(0),
                    Words.load(2, 0, 1), Words.store(1, 0, 3), Words.store(1, 0, 4));
            Words.does(x, 1, Words.set(1, 7), Words.store(1, 0, 6), Words.load(2, 0, 8), Words.begin(0),
                    Words.load(2, 0, 10));
            int peeked = x.peek(address);
            Words.does(x, 2, Words.load(3, 0, address));
            check.same("word " + address, peeked, x.register(2, 3));
        }
    }

    private static void peekDisturbsNothing() {
        Busy.undisturbed(check, "after peeks", x -> {
            for (int address = 0; address < 64; address++) {
                x.peek(address);
            }
            x.peek(-1);
            x.peek(64);
        });
    }

    private static void peekIsNoUse() {
        TransactionCores x = new TransactionCores(1, 1, 2);
        Words.does(x, 0, Words.store(1, 0, 0), Words.store(1, 0, 2));
        x.peek(0);
        x.peek(4);
        Words.goOn(x, 0, Words.load(1, 0, 4));
        check.same("room was made where it was due", x.way(0, 0, 0, 1), 2);
        check.same("the later line stays", x.way(0, 0, 1, 1), 1);
    }

    private static void modified() {
        for (int c = 0; c < 3; c++) {
            TransactionCores x = new TransactionCores(3, 1, 1);
            Words.does(x, c, Words.set(1, 11), Words.store(1, 0, 6), Words.set(1, 12), Words.store(1, 0, 7));
            check.same("even word", x.peek(6), 11);
            check.same("odd word", x.peek(7), 12);
            check.same("memory", x.memory(6), 0);
            check.same("memory", x.memory(7), 0);
            check.same("another line", x.peek(8), 0);
        }
    }

    private static void shared() {
        TransactionCores x = new TransactionCores(2, 1, 1);
        Words.does(x, 0, Words.set(1, 11), Words.store(1, 0, 6));
        Words.does(x, 1, Words.load(1, 0, 6));
        check.same("both have it", x.peek(6), 11);
        x.poke(6, 12);
        check.same("none has it any more", x.peek(6), 12);
    }

    private static void written() {
        TransactionCores x = new TransactionCores(1, 1, 1);
        x.poke(6, 4);
        Words.does(x, 0, Words.begin(0), Words.set(1, 11), Words.store(1, 0, 6));
        check.same("not committed", x.peek(6), 4);
        Words.goOn(x, 0, Words.END);
        check.same("committed", x.peek(6), 11);
        check.same("committed, memory", x.memory(6), 4);
    }

    private static TransactionCores modifiedAndRead() {
        TransactionCores x = new TransactionCores(1, 1, 1);
        Words.does(x, 0, Words.set(1, 11), Words.store(1, 0, 6), Words.begin(0), Words.load(2, 0, 6));
        return x;
    }

    private static void modifiedWithReadMark() {
        TransactionCores x = modifiedAndRead();
        check.same("marks", x.way(0, 0, 0, 2), 1);
        check.same("a read mark hides nothing", x.peek(6), 11);
        check.same("memory", x.memory(6), 0);
    }

    private static void modifiedWithBothMarks() {
        TransactionCores x = modifiedAndRead();
        Words.goOn(x, 0, Words.store(1, 0, 7));
        check.same("marks", x.way(0, 0, 0, 2), 3);
        check.same("what was there before the transaction", x.peek(6), 11);
        check.same("what was there before the transaction", x.peek(7), 0);
    }

    private static void elseOfMemory() {
        TransactionCores x = new TransactionCores(1, 1, 1);
        for (int address = 0; address < 64; address++) {
            x.poke(address, 1000 - 31 * address);
        }
        for (int address = 0; address < 64; address++) {
            check.same("peek " + address, x.peek(address), 1000 - 31 * address);
        }
    }

    private static void memoryIsBehindTheCaches() {
        TransactionCores x = new TransactionCores(2, 1, 1);
        Words.does(x, 0, Words.set(1, 11), Words.store(1, 0, 6));
        check.same("not yet", x.memory(6), 0);
        Words.does(x, 1, Words.load(2, 0, 6));
        check.same("another core's load brings it", x.memory(6), 11);
        Words.goOn(x, 0, Words.store(1, 0, 7));
        check.same("not yet", x.memory(7), 0);
        Words.goOn(x, 0, Words.load(1, 0, 2));
        check.same("making room brings it", x.memory(7), 11);
    }

    private static void memoryDisturbsNothing() {
        Busy.undisturbed(check, "after asking", x -> {
            for (int address = -1; address <= 64; address++) {
                x.memory(address);
            }
        });
    }
}
