import java.util.ArrayDeque;
import java.util.Deque;
import java.util.Random;

/** Made-up runs of calls, always the same ones, on the program and on a plain model of the document. */
public final class ModelTest {
    private static final int RUNS = 6000;
    /** An object is promised for so many calls only. */
    private static final int CALLS = 512;

    private static int wrong = 0;
    private static int run = 0;
    private static int calls = 0;

    private record Word(boolean pointer, int at, int from, int to, int rights) {
        static final Word ZERO = of(0);

        static Word of(int v) {
            return new Word(false, v, 0, 0, 0);
        }
    }

    /** The document's words, cell by cell, with no thought of speed or room. */
    private static final class Model implements Cloneable {
        Word[] cells = new Word[256];
        Word[] registers = new Word[8];
        int[] use = new int[256];
        /** For each cell that is given out: the number of its range. */
        int[] owner = new int[256];
        boolean[] doomed = new boolean[256];
        boolean[] seen = new boolean[16];
        boolean[] dirty = new boolean[16];
        int[] counts = new int[14];
        int ranges = 0;
        boolean on = false;
        Deque<Model> past = new ArrayDeque<>();

        Model() {
            java.util.Arrays.fill(cells, Word.ZERO);
            java.util.Arrays.fill(registers, Word.ZERO);
        }

        private Model snapshot() {
            try {
                Model m = (Model) clone();
                m.cells = cells.clone();
                m.registers = registers.clone();
                m.use = use.clone();
                m.owner = owner.clone();
                m.doomed = doomed.clone();
                m.seen = seen.clone();
                m.dirty = dirty.clone();
                m.counts = counts.clone();
                return m;
            } catch (CloneNotSupportedException e) {
                throw new IllegalStateException(e);
            }
        }

        private void act() {
            past.addLast(snapshot());
            if (past.size() > 24) {
                past.removeFirst();
            }
        }

        int undo() {
            if (past.isEmpty()) {
                return -2;
            }
            Model m = past.removeLast();
            cells = m.cells;
            registers = m.registers;
            use = m.use;
            owner = m.owner;
            doomed = m.doomed;
            seen = m.seen;
            dirty = m.dirty;
            counts = m.counts;
            ranges = m.ranges;
            on = m.on;
            return 1;
        }

        private static boolean noRegister(int... numbers) {
            for (int r : numbers) {
                if (r < 0 || r > 7) {
                    return true;
                }
            }
            return false;
        }

        private static int found(Word w, int right, int d, int n) {
            if (!w.pointer) {
                return -11;
            }
            if (right != 0 && (w.rights & right) == 0) {
                return -12;
            }
            for (long i = (long) w.at + d; i < (long) w.at + d + n; i++) {
                if (i < w.from || i >= w.to) {
                    return -13;
                }
            }
            return 0;
        }

        private boolean stale(Word w) {
            for (int i = w.from; on && w.pointer && i < w.to; i++) {
                if (doomed[i]) {
                    return true;
                }
            }
            return false;
        }

        private Word lookUp(int cell) {
            if (stale(cells[cell])) {
                counts[8]++;
                return Word.of(cells[cell].at);
            }
            return cells[cell];
        }

        private void layDown(int cell, Word w) {
            cells[cell] = w;
            if (on && w.pointer && seen[cell / 16]) {
                dirty[cell / 16] = true;
            }
        }

        int give(int r, int n) {
            if (noRegister(r) || n < 1 || n > 64) {
                return -1;
            }
            for (int from = 0; from + n <= 256; from++) {
                boolean free = true;
                for (int i = from; i < from + n; i++) {
                    free &= use[i] == 0;
                }
                if (free) {
                    act();
                    ranges++;
                    for (int i = from; i < from + n; i++) {
                        use[i] = 1;
                        owner[i] = ranges;
                        cells[i] = Word.ZERO;
                    }
                    registers[r] = new Word(true, from, from, from + n, 3);
                    return from;
                }
            }
            return -3;
        }

        int back(int r) {
            if (noRegister(r)) {
                return -1;
            }
            Word w = registers[r];
            if (!w.pointer) {
                return -11;
            }
            if (range(w.from, 0) != w.from || range(w.from, 1) != w.to - w.from) {
                return -2;
            }
            act();
            for (int i = w.from; i < w.to; i++) {
                use[i] = 2;
            }
            return w.to - w.from;
        }

        int number(int r, int v) {
            if (noRegister(r)) {
                return -1;
            }
            act();
            registers[r] = Word.of(v);
            return 0;
        }

        int copy(int r, int s) {
            if (noRegister(r, s)) {
                return -1;
            }
            act();
            registers[r] = registers[s];
            return 0;
        }

        int move(int r, int d) {
            if (noRegister(r)) {
                return -1000000001;
            }
            Word w = registers[r];
            if (!w.pointer) {
                return -1000000011;
            }
            act();
            registers[r] = new Word(true, w.at + d, w.from, w.to, w.rights);
            return w.at + d;
        }

        int narrow(int r, int s, int n, int k) {
            if (noRegister(r, s) || n < 1 || k < 0 || k > 3) {
                return -1;
            }
            Word w = registers[s];
            int found = found(w, 0, 0, n);
            if (found != 0) {
                return found;
            }
            act();
            registers[r] = new Word(true, w.at, w.at, w.at + n, w.rights & k);
            return w.at;
        }

        int look(int r, int s, int d) {
            if (noRegister(r, s)) {
                return -1;
            }
            Word w = registers[s];
            int found = found(w, 1, d, 1);
            if (found != 0) {
                return found;
            }
            act();
            registers[r] = lookUp(w.at + d);
            return registers[r].pointer ? 1 : 0;
        }

        int lay(int s, int d, int r) {
            if (noRegister(s, r)) {
                return -1;
            }
            Word w = registers[s];
            int found = found(w, 2, d, 1);
            if (found != 0) {
                return found;
            }
            act();
            layDown(w.at + d, registers[r]);
            return w.at + d;
        }

        int block(int s, int d, int t, int e, int n) {
            if (noRegister(s, t) || n < 1 || n > 64) {
                return -1;
            }
            Word to = registers[s];
            Word from = registers[t];
            int found = found(to, 2, d, n);
            if (found == 0) {
                found = found(from, 1, e, n);
            }
            if (found != 0) {
                return found;
            }
            act();
            Word[] taken = new Word[n];
            for (int i = 0; i < n; i++) {
                taken[i] = lookUp(from.at + e + i);
            }
            for (int i = 0; i < n; i++) {
                layDown(to.at + d + i, taken[i]);
            }
            return n;
        }

        int sweep() {
            if (on) {
                return -2;
            }
            act();
            on = true;
            seen = new boolean[16];
            dirty = new boolean[16];
            int n = 0;
            for (int i = 0; i < 256; i++) {
                doomed[i] = use[i] == 2;
                n += doomed[i] ? 1 : 0;
            }
            return n;
        }

        private int looked(Word[] words, int from, int to) {
            int n = 0;
            for (int i = from; i < to; i++) {
                if (stale(words[i])) {
                    words[i] = Word.of(words[i].at);
                    n++;
                }
            }
            return n;
        }

        int step(int n) {
            if (n < 1 || n > 16) {
                return -1;
            }
            if (!on) {
                return -2;
            }
            act();
            int taken = 0;
            int left = n;
            for (int p = 0; p < 16 && left > 0; p++) {
                if (!seen[p]) {
                    taken += looked(cells, p * 16, p * 16 + 16);
                    seen[p] = true;
                    counts[9]++;
                    left--;
                }
            }
            counts[5] += taken;
            return taken;
        }

        int end() {
            boolean ready = on;
            for (boolean s : seen) {
                ready &= s;
            }
            if (!ready) {
                return -2;
            }
            act();
            for (int p = 0; p < 16; p++) {
                if (dirty[p]) {
                    counts[6] += looked(cells, p * 16, p * 16 + 16);
                    counts[10]++;
                }
            }
            counts[7] += looked(registers, 0, 8);
            counts[11]++;
            on = false;
            int freed = 0;
            for (int i = 0; i < 256; i++) {
                if (doomed[i]) {
                    use[i] = 0;
                    doomed[i] = false;
                    freed++;
                }
            }
            return freed;
        }

        int told(int where, int i, int what) {
            boolean some = where == 0 && !noRegister(i) || where == 1 && i >= 0 && i < 256;
            if (!some || what < 0 || what > 6) {
                return -1000000001;
            }
            Word w = where == 0 ? registers[i] : cells[i];
            int u = where == 0 ? 0 : use[i];
            int[] all = {w.pointer ? 1 : 0, w.at, w.from, w.to, w.rights, u, stale(w) ? 1 : 0};
            return all[what];
        }

        int page(int p, int what) {
            if (p < 0 || p > 15 || what < 0 || what > 4) {
                return -1;
            }
            int[] all = new int[5];
            all[0] = on && seen[p] ? 1 : 0;
            all[1] = on && dirty[p] ? 1 : 0;
            for (int i = p * 16; i < p * 16 + 16; i++) {
                all[2] += cells[i].pointer ? 1 : 0;
                all[3] += use[i] == 1 ? 1 : 0;
                all[4] += use[i] == 2 ? 1 : 0;
            }
            return all[what];
        }

        int range(int i, int what) {
            if (i < 0 || i > 255 || what < 0 || what > 1) {
                return -1;
            }
            if (use[i] != 1) {
                return -4;
            }
            int first = -1;
            int n = 0;
            for (int c = 0; c < 256; c++) {
                if (use[c] == 1 && owner[c] == owner[i]) {
                    first = first < 0 ? c : first;
                    n++;
                }
            }
            return what == 0 ? first : n;
        }

        int count(int what) {
            if (what < 0 || what > 13) {
                return -1;
            }
            int[] all = counts.clone();
            java.util.Set<Integer> owners = new java.util.HashSet<>();
            for (int i = 0; i < 256; i++) {
                all[use[i]]++;
                all[3] += doomed[i] ? 1 : 0;
                if (use[i] == 1) {
                    owners.add(owner[i]);
                }
            }
            all[4] = owners.size();
            all[12] = on ? 1 : 0;
            all[13] = past.size();
            return all[what];
        }
    }

    private static int rarelyWrong(Random dice, int below) {
        return dice.nextInt(60) == 0 ? (dice.nextBoolean() ? -1 : below) : dice.nextInt(below);
    }

    private static int offset(Random dice) {
        int[] far = {Integer.MAX_VALUE, Integer.MIN_VALUE, 256, -256};
        return dice.nextInt(40) == 0 ? far[dice.nextInt(4)] : dice.nextInt(12) - 2;
    }

    private static int length(Random dice) {
        return dice.nextInt(4) == 0 ? dice.nextInt(67) : 1 + dice.nextInt(8);
    }

    /** A register, more often one that holds a pointer (or that does not) than chance would have it. */
    private static int register(Random dice, Model m, boolean pointer) {
        int r = rarelyWrong(dice, 8);
        for (int tries = 0; tries < 3 && r >= 0 && r < 8 && m.registers[r].pointer() != pointer; tries++) {
            r = dice.nextInt(8);
        }
        return r;
    }

    /** What to add to register s to come just within or beyond its bounds; from far below AT only a wrap would. */
    private static int offsetToEdge(Random dice, Model m, int s, int n) {
        if (s < 0 || s > 7) {
            return 0;
        }
        Word w = m.registers[s];
        int[] edges = {w.from() - 1, w.from(), w.to() - n, w.to() - n + 1, w.to() - 1, w.to()};
        return edges[dice.nextInt(edges.length)] - w.at();
    }

    /** What to add to register s so that it often points to a cell that holds a pointer. */
    private static int offsetOfPointer(Random dice, Model m, int s, int n) {
        if (s >= 0 && s < 8 && dice.nextInt(3) != 0) {
            Word w = m.registers[s];
            for (int i = w.from(); i < w.to(); i++) {
                if (m.cells[i].pointer() && dice.nextBoolean()) {
                    return i - w.at();
                }
            }
        }
        return dice.nextBoolean() ? offsetToEdge(dice, m, s, n) : offset(dice);
    }

    private static void same(int got, int want, String name, int... arguments) {
        calls++;
        if (got != want && wrong++ < 20) {
            String call = name + java.util.Arrays.toString(arguments);
            System.out.println("run " + run + ", call " + calls + ": " + call + " answered " + got + ", due is " + want);
        }
    }

    private static void act(Random dice, PointerSweep x, Model m) {
        int r = register(dice, m, false);
        int s = register(dice, m, true);
        int t = register(dice, m, true);
        int n = length(dice);
        int d = dice.nextInt(4) == 0 ? offsetToEdge(dice, m, s, n) : offset(dice);
        int e = offsetOfPointer(dice, m, t, n);
        switch (dice.nextInt(25)) {
            case 0, 1, 2 -> same(x.give(r, n), m.give(r, n), "give", r, n);
            case 3, 4 -> same(x.back(s), m.back(s), "back", s);
            case 5 -> same(x.number(r, d), m.number(r, d), "number", r, d);
            case 6 -> same(x.copy(r, s), m.copy(r, s), "copy", r, s);
            case 7 -> same(x.move(s, d), m.move(s, d), "move", s, d);
            case 8 -> {
                int k = dice.nextInt(3) == 0 ? rarelyWrong(dice, 4) : 3;
                same(x.narrow(r, s, n, k), m.narrow(r, s, n, k), "narrow", r, s, n, k);
            }
            case 9, 10, 11 -> same(x.look(r, t, e), m.look(r, t, e), "look", r, t, e);
            case 12, 13, 14, 15 -> same(x.lay(s, d, t), m.lay(s, d, t), "lay", s, d, t);
            case 16, 17, 18 -> same(x.block(s, d, t, e, n), m.block(s, d, t, e, n), "block", s, d, t, e, n);
            case 19, 20 -> same(x.sweep(), m.sweep(), "sweep");
            case 21, 22 -> same(x.step(n), m.step(n), "step", n);
            case 23 -> same(x.end(), m.end(), "end");
            default -> undoSome(dice, x, m);
        }
    }

    private static void undoSome(Random dice, PointerSweep x, Model m) {
        int times = dice.nextInt(12) == 0 ? 26 : dice.nextInt(3);
        for (int i = 0; i < times && calls < CALLS; i++) {
            same(x.undo(), m.undo(), "undo");
        }
    }

    private static void ask(Random dice, PointerSweep x, Model m) {
        int cell = rarelyWrong(dice, 256);
        int page = rarelyWrong(dice, 16);
        int where = rarelyWrong(dice, 2);
        int place = where == 0 ? rarelyWrong(dice, 8) : cell;
        int ofCount = rarelyWrong(dice, 14);
        int ofPlace = rarelyWrong(dice, 7);
        int ofPage = rarelyWrong(dice, 5);
        int ofRange = rarelyWrong(dice, 2);
        switch (dice.nextInt(4)) {
            case 0 -> same(x.count(ofCount), m.count(ofCount), "count", ofCount);
            case 1 -> same(x.told(where, place, ofPlace), m.told(where, place, ofPlace), "told", where, place, ofPlace);
            case 2 -> same(x.page(page, ofPage), m.page(page, ofPage), "page", page, ofPage);
            default -> same(x.range(cell, ofRange), m.range(cell, ofRange), "range", cell, ofRange);
        }
    }

    public static void main(String[] args) {
        int[] reached = new int[14];
        for (run = 0; run < RUNS; run++) {
            Random dice = new Random(run);
            PointerSweep x = new PointerSweep();
            Model m = new Model();
            calls = 0;
            while (calls < CALLS) {
                act(dice, x, m);
                if (calls < CALLS) {
                    ask(dice, x, m);
                }
            }
            for (int what = 5; what < 12; what++) {
                reached[what] += m.count(what);
            }
        }
        for (int what = 5; what < 12; what++) {
            if (reached[what] < RUNS / 10) {
                wrong++;
                System.out.println("the runs hardly ever reach count(" + what + "): " + reached[what]);
            }
        }
        System.out.println(wrong == 0 ? "model: all answers are as due" : wrong + " answers are not as due");
        if (wrong != 0) {
            System.exit(1);
        }
    }
}
