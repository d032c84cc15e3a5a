import java.util.Random;

/**
 * All promises together: mixed runs of every length, each answer compared with the model's, and at the end of each
 * run all that can be asked. No object is used for more than 512 calls. The seeds are fixed.
 */
public final class ModelTest {
    private static final int RUNS = 12000;
    private static final int MOST_CALLS = 512;
    private static final int[] SETS = {1, 2, 4};
    /** Loads, stores and transactions come more often than the rest, or there would be few conflicts. */
    private static final int[] KINDS = {0, 1, 2, 3, 4, 5, 5, 5, 5, 5, 5, 6, 6, 6, 6, 6, 7, 8, 9, 9, 9, 9, 10, 10, 10,
        11, 12, 13, 14};

    private final Check check = new Check();
    private final Random random;
    private final int n;
    private final int sets;
    private final int ways;
    private final TransactionCores x;
    private final Model model;
    private int calls;

    private ModelTest(long seed) {
        random = new Random(seed);
        n = 1 + random.nextInt(3);
        sets = SETS[random.nextInt(3)];
        ways = 1 + random.nextInt(3);
        x = new TransactionCores(n, sets, ways);
        model = new Model(n, sets, ways);
    }

    public static void main(String[] args) {
        int[] seen = new int[6];
        for (int seed = 0; seed < RUNS; seed++) {
            ModelTest test = new ModelTest(seed);
            test.whole();
            for (int c = 0; c < test.n; c++) {
                for (int fate = 0; fate < 6; fate++) {
                    seen[fate] += test.model.fate(c, fate);
                }
            }
            if (test.check.wrongs() > 0) {
                System.out.println("seed " + seed);
                System.exit(1);
            }
        }
        Check fates = new Check();
        for (int fate = 0; fate < 6; fate++) {
            System.out.println("fate " + fate + ": " + seen[fate]);
            fates.same("fate " + fate + " came often", seen[fate] > 100 ? 1 : 0, 1);
        }
        fates.finish();
    }

    private void whole() {
        for (int c = 0; c < n; c++) {
            for (int place = 0; place < 16; place++) {
                putWord(c, place);
            }
        }
        int spare = MOST_CALLS - calls - n * (11 + 6 + 5 * sets * ways) - 2 * 64 - 1;
        // Some call is one or two calls.
        int end = calls + 2 + random.nextInt(spare - 1);
        while (calls <= end - 2 && check.wrongs() == 0) {
            someCall();
        }
        compare();
        check.same("no call too many", Math.max(calls, MOST_CALLS), MOST_CALLS);
    }

    private void someCall() {
        int core = random.nextInt(n);
        switch (random.nextInt(20)) {
            case 0 -> {
                int address = random.nextInt();
                address = random.nextBoolean() ? address : address & 15;
                int value = random.nextInt(100) - 50;
                calls++;
                x.poke(address, value);
                model.poke(address, value);
            }
            case 1 -> putWord(core, random.nextInt(16));
            case 2, 3 -> jump(core, random.nextInt(64) - 32);
            case 4, 5 -> {
                int order = random.nextInt();
                int steps = random.nextInt(17);
                calls++;
                check.same("run", x.run(order, steps), model.run(order, steps));
            }
            case 6 -> compareRegister(core, random.nextInt(11));
            case 7 -> compareWay(core, random.nextInt(sets * ways * 5));
            case 8 -> compareWord(random.nextInt(16));
            default -> {
                calls++;
                check.same("step", x.step(core), model.step(core));
            }
        }
    }

    private void jump(int core, int pc) {
        boolean jumped = true;
        calls++;
        try {
            x.jump(core, pc);
        } catch (IllegalStateException e) {
            jumped = false;
        }
        check.same("jump", jumped ? 1 : 0, model.jump(core, pc) ? 1 : 0);
    }

    private void putWord(int core, int place) {
        int word = random.nextInt(40) == 0 ? random.nextInt() : usualWord();
        calls++;
        x.code(core, place, word);
        model.code(core, place, word);
    }

    private int usualWord() {
        int kind = KINDS[random.nextInt(KINDS.length)];
        int b = kind == 5 || kind == 6 ? random.nextInt(2) * random.nextInt(8) : random.nextInt(8);
        return Words.word(kind, random.nextInt(8), b, random.nextInt(24) - 8) | random.nextInt(2) << 10;
    }

    private void compare() {
        for (int c = 0; c < n; c++) {
            for (int r = 0; r <= 10; r++) {
                compareRegister(c, r);
            }
            for (int cause = 0; cause <= 5; cause++) {
                calls++;
                check.same("fate " + c + " " + cause, x.fate(c, cause), model.fate(c, cause));
            }
            for (int k = 0; k < sets * ways * 5; k++) {
                compareWay(c, k);
            }
        }
        for (int address = 0; address < 64; address++) {
            compareWord(address);
        }
        calls++;
        check.same("requests", x.requests(), model.requests);
    }

    private void compareRegister(int core, int r) {
        calls++;
        check.same("register " + core + " " + r, x.register(core, r), model.register(core, r));
    }

    private void compareWay(int core, int k) {
        int set = k / 5 / ways;
        int way = k / 5 % ways;
        calls++;
        check.same("way " + core + " " + set + " " + way + " " + k % 5, x.way(core, set, way, k % 5),
                model.way(core, set, way, k % 5));
    }

    private void compareWord(int address) {
        calls += 2;
        check.same("memory " + address, x.memory(address), model.memory(address));
        check.same("peek " + address, x.peek(address), model.peek(address));
    }
}
