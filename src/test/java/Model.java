import java.util.ArrayList;
import java.util.Arrays;
import java.util.List;

/**
 * The document read a second time, with other means than the class itself: each core's lines stand in a list
 * in the order of their use, and a transaction keeps a copy of the registers. Slow, and only for comparing.
 */
final class Model {
    /** A line that some core has. */
    private static final class Held {
        int line;
        int slot;
        boolean modified;
        boolean readMark;
        boolean writeMark;
        int[] words = new int[2];

        boolean marked() {
            return readMark || writeMark;
        }
    }

    private static final class Unit {
        final List<Held> byUse = new ArrayList<>();
        final int[] program = new int[16];
        int[] registers = new int[8];
        int[] registersAtBegin;
        final int[] fates = new int[6];
        int pc;
        int fallback;
        int depth;
        boolean stopped;
        boolean aborted;

        Held holding(int line) {
            for (Held held : byUse) {
                if (held.line == line) {
                    return held;
                }
            }
            return null;
        }

        void abort(int cause, int extra) {
            byUse.removeIf(held -> held.writeMark);
            unmark();
            registers = registersAtBegin.clone();
            registers[7] = cause + extra;
            pc = fallback;
            depth = 0;
            fates[cause]++;
            aborted = true;
        }

        void unmark() {
            for (Held held : byUse) {
                held.readMark = false;
                held.writeMark = false;
            }
        }
    }

    private final int[] memory = new int[64];
    private final Unit[] units;
    private final int sets;
    private final int ways;
    int requests;

    Model(int n, int sets, int ways) {
        units = new Unit[n];
        Arrays.setAll(units, c -> new Unit());
        this.sets = sets;
        this.ways = ways;
    }

    void code(int core, int place, int word) {
        units[core].program[place] = word;
    }

    void poke(int address, int value) {
        int at = Math.floorMod(address, 64);
        ask(null, at / 2, true);
        memory[at] = value;
    }

    int peek(int address) {
        int at = Math.floorMod(address, 64);
        for (Unit unit : units) {
            Held held = unit.holding(at / 2);
            if (held != null && held.modified && !held.writeMark) {
                return held.words[at % 2];
            }
        }
        return memory[at];
    }

    int memory(int address) {
        return memory[Math.floorMod(address, 64)];
    }

    /** False: the core has a transaction. */
    boolean jump(int core, int pc) {
        if (units[core].depth > 0) {
            return false;
        }
        units[core].pc = Math.floorMod(pc, 16);
        units[core].stopped = false;
        return true;
    }

    int register(int core, int r) {
        Unit u = units[core];
        return r < 8 ? u.registers[r] : r == 8 ? u.pc : r == 9 ? u.depth : u.stopped ? 1 : 0;
    }

    int fate(int core, int cause) {
        return units[core].fates[cause];
    }

    int way(int core, int set, int way, int what) {
        for (Held held : units[core].byUse) {
            if (held.line % sets == set && held.slot == way) {
                int marks = (held.readMark ? 1 : 0) + (held.writeMark ? 2 : 0);
                return new int[] {held.modified ? 2 : 1, held.line, marks, held.words[0], held.words[1]}[what];
            }
        }
        return what == 0 ? 0 : -1;
    }

    int run(int order, int steps) {
        int commits = 0;
        for (int k = 0; k < steps; k++) {
            int two = (int) ((order & 0xFFFFFFFFL) / (1L << 2 * k) % 4);
            commits += step(two % units.length) == 3 ? 1 : 0;
        }
        return commits;
    }

    int step(int core) {
        Unit u = units[core];
        if (u.stopped) {
            return 0;
        }
        u.aborted = false;
        int commitsBefore = u.fates[0];
        int before = u.pc;
        int word = u.program[before];
        u.pc = (before + 1) % 16;
        obey(u, core, before, word);
        if (u.stopped) {
            return 0;
        }
        if (Math.floorMod(word, 16) == 0) {
            return 1;
        }
        return u.aborted ? 2 : u.fates[0] > commitsBefore ? 3 : 4;
    }

    private void obey(Unit u, int core, int before, int word) {
        int a = Math.floorMod(Math.floorDiv(word, 16), 8);
        int b = Math.floorMod(Math.floorDiv(word, 128), 8);
        int immediate = Math.floorDiv(word, 2048);
        int c = Math.floorMod(immediate, 8);
        int[] r = u.registers;
        switch (Math.floorMod(word, 16)) {
            case 0 -> u.pc = before;
            case 1 -> r[a] = immediate;
            case 2 -> r[a] = r[b] + r[c];
            case 3 -> r[a] = r[b] - r[c];
            case 4 -> r[a] = r[b] & r[c];
            case 5 -> {
                int at = Math.floorMod(r[b] + immediate, 64);
                Held held = access(u, at / 2, false);
                if (held != null) {
                    r[a] = held.words[at % 2];
                }
            }
            case 6 -> {
                int at = Math.floorMod(r[b] + immediate, 64);
                Held held = access(u, at / 2, true);
                if (held != null) {
                    held.words[at % 2] = r[a];
                }
            }
            case 7 -> u.pc = r[a] == 0 ? Math.floorMod(u.pc + immediate, 16) : u.pc;
            case 8 -> u.pc = r[a] < r[b] ? Math.floorMod(u.pc + immediate, 16) : u.pc;
            case 9 -> begin(u, immediate);
            case 10 -> end(u, before);
            case 11 -> {
                if (u.depth > 0) {
                    u.abort(4, 8 * Math.floorMod(immediate, 256));
                }
            }
            case 12 -> r[a] = u.depth;
            case 13 -> r[a] = core;
            default -> fault(u, before);
        }
    }

    private static void begin(Unit u, int immediate) {
        if (u.depth == 3) {
            u.abort(3, 0);
            return;
        }
        if (u.depth == 0) {
            u.registersAtBegin = u.registers.clone();
            u.fallback = Math.floorMod(u.pc + immediate, 16);
        }
        u.depth++;
    }

    private static void end(Unit u, int before) {
        if (u.depth == 0) {
            fault(u, before);
            return;
        }
        if (u.depth == 1) {
            u.unmark();
            u.fates[0]++;
        }
        u.depth--;
    }

    private static void fault(Unit u, int before) {
        if (u.depth > 0) {
            u.abort(5, 0);
        } else {
            u.stopped = true;
            u.pc = before;
        }
    }

    private Held access(Unit u, int line, boolean writes) {
        Held held = u.holding(line);
        boolean had = held != null;
        Held victim = null;
        int slot = had ? held.slot : freeSlot(u, line % sets);
        if (!had && slot < 0) {
            victim = victim(u, line % sets);
            if (victim == null) {
                u.abort(2, 0);
                return null;
            }
            slot = victim.slot;
        }
        if (!had || writes && !held.modified) {
            requests++;
            ask(u, line, writes);
        }
        if (!had) {
            if (victim != null) {
                if (victim.modified) {
                    toMemory(victim);
                }
                u.byUse.remove(victim);
            }
            held = new Held();
            held.line = line;
            held.slot = slot;
            held.words[0] = memory[2 * line];
            held.words[1] = memory[2 * line + 1];
        }
        if (writes) {
            if (u.depth > 0 && held.modified && !held.writeMark) {
                toMemory(held);
            }
            held.modified = true;
        }
        if (u.depth > 0) {
            held.writeMark |= writes;
            held.readMark |= !writes;
        }
        u.byUse.remove(held);
        u.byUse.add(held);
        return held;
    }

    private int freeSlot(Unit u, int set) {
        for (int slot = 0; slot < ways; slot++) {
            int wanted = slot;
            if (u.byUse.stream().noneMatch(held -> held.line % sets == set && held.slot == wanted)) {
                return slot;
            }
        }
        return -1;
    }

    private Held victim(Unit u, int set) {
        for (Held held : u.byUse) {
            if (held.line % sets == set && !held.marked()) {
                return held;
            }
        }
        return null;
    }

    private void ask(Unit asker, int line, boolean writes) {
        for (Unit other : units) {
            Held met = other == asker ? null : other.holding(line);
            if (met == null) {
                continue;
            }
            if (met.writeMark || writes && met.marked()) {
                other.abort(1, 0);
            }
            if (!other.byUse.contains(met)) {
                continue;
            }
            if (met.modified) {
                toMemory(met);
            }
            met.modified = false;
            if (writes) {
                other.byUse.remove(met);
            }
        }
    }

    private void toMemory(Held held) {
        memory[2 * held.line] = held.words[0];
        memory[2 * held.line + 1] = held.words[1];
    }
}
