/** What an object tells of itself, as a text: two objects that were used alike tell the same. */
final class State {
    private State() {
    }

    static String of(TransactionCores x, int n, int sets, int ways) {
        return ofCores(x, n, sets, ways) + ofMemory(x);
    }

    static String ofCores(TransactionCores x, int n, int sets, int ways) {
        StringBuilder text = new StringBuilder();
        for (int c = 0; c < n; c++) {
            text.append("core ").append(c).append(':');
            for (int r = 0; r <= 10; r++) {
                text.append(' ').append(x.register(c, r));
            }
            text.append(" fates");
            for (int cause = 0; cause <= 5; cause++) {
                text.append(' ').append(x.fate(c, cause));
            }
            for (int w = 0; w < sets * ways; w++) {
                text.append(" way");
                for (int what = 0; what < 5; what++) {
                    text.append(' ').append(x.way(c, w / ways, w % ways, what));
                }
            }
            text.append("; ");
        }
        return text.toString();
    }

    static String ofMemory(TransactionCores x) {
        StringBuilder text = new StringBuilder("memory/peek");
        for (int address = 0; address < 64; address++) {
            text.append(' ').append(x.memory(address)).append('/').append(x.peek(address));
        }
        return text.append("; requests ").append(x.requests()).toString();
    }
}
