/**
 * A memory of 256 cells and 8 registers with bounded pointers, and the sweeper that takes away
 * pointers into what was given back before that may be given out again.
 */
public final class PointerSweep {
    public static final int BAD = -1, NO = -2, FULL = -3, NONE = -4;

    private static final int CELLS = 256, PAGES = 16, PAGE_CELLS = 16, REGISTERS = 8;
    private static final int MOST_CELLS = 64, ACTS = 24;

    private static final int FINE = 0, TAG = -11, RIGHT = -12, BOUNDS = -13;
    private static final int TO_LOOK = 1, TO_LAY = 2, ALL_RIGHTS = 3;

    /** Added to a refusal where every small number may be an answer. */
    private static final int FAR = -1000000000;

    private static final int FREE_CELL = 0, GIVEN_CELL = 1, QUARANTINED_CELL = 2;

    private static final int TALLIES = 7;
    private static final int IN_STEPS = 0, AT_END_IN_PAGES = 1, IN_REGISTERS = 2, BY_LOOKING = 3;
    private static final int PAGES_IN_STEPS = 4, PAGES_AT_END = 5, SWEEPS_ENDED = 6;

    /** The first what of count() that asks for a tally, and the one after the last. */
    private static final int FIRST_TALLY = 5, AFTER_TALLIES = FIRST_TALLY + TALLIES;

    private final State now = new State();
    private final History history = new History();
    /** What block() moves, held apart because its two rows may lie over one another. */
    private final long[] carried = new long[MOST_CELLS];

    public PointerSweep() {
    }

    public int give(int r, int n) {
        if (!isRegister(r) || n < 1 || n > MOST_CELLS) {
            return BAD;
        }
        int from = now.firstFreeRow(n);
        if (from < 0) {
            return FULL;
        }
        history.keep(now);
        now.giveOut(from, from + n);
        now.registers[r] = Word.ofPointer(from, from + n, from, ALL_RIGHTS);
        return from;
    }

    public int back(int r) {
        if (!isRegister(r)) {
            return BAD;
        }
        long pointer = now.registers[r];
        if (!Word.isPointer(pointer)) {
            return TAG;
        }
        int from = Word.from(pointer);
        int to = Word.to(pointer);
        if (!now.isRange(from, to)) {
            return NO;
        }
        history.keep(now);
        now.giveBack(from, to);
        return to - from;
    }

    public int number(int r, int v) {
        if (!isRegister(r)) {
            return BAD;
        }
        history.keep(now);
        now.registers[r] = Word.ofNumber(v);
        return 0;
    }

    public int copy(int r, int s) {
        if (!isRegister(r) || !isRegister(s)) {
            return BAD;
        }
        history.keep(now);
        now.registers[r] = now.registers[s];
        return 0;
    }

    public int move(int r, int d) {
        if (!isRegister(r)) {
            return FAR + BAD;
        }
        long pointer = now.registers[r];
        if (!Word.isPointer(pointer)) {
            return FAR + TAG;
        }
        history.keep(now);
        int at = Word.at(pointer) + d;
        now.registers[r] = Word.ofPointer(Word.from(pointer), Word.to(pointer), at, Word.rights(pointer));
        return at;
    }

    public int narrow(int r, int s, int n, int k) {
        if (!isRegister(r) || !isRegister(s) || n < 1 || k < 0 || k > ALL_RIGHTS) {
            return BAD;
        }
        long pointer = now.registers[s];
        if (!Word.isPointer(pointer)) {
            return TAG;
        }
        if (!Word.covers(pointer, 0, n)) {
            return BOUNDS;
        }
        history.keep(now);
        int at = Word.at(pointer);
        now.registers[r] = Word.ofPointer(at, at + n, at, Word.rights(pointer) & k);
        return at;
    }

    public int look(int r, int s, int d) {
        if (!isRegister(r) || !isRegister(s)) {
            return BAD;
        }
        long pointer = now.registers[s];
        int fault = faultOf(pointer, TO_LOOK, d, 1);
        if (fault != FINE) {
            return fault;
        }
        history.keep(now);
        long word = now.lookUp(Word.at(pointer) + d);
        now.registers[r] = word;
        return oneIf(Word.isPointer(word));
    }

    public int lay(int s, int d, int r) {
        if (!isRegister(s) || !isRegister(r)) {
            return BAD;
        }
        long pointer = now.registers[s];
        int fault = faultOf(pointer, TO_LAY, d, 1);
        if (fault != FINE) {
            return fault;
        }
        history.keep(now);
        int cell = Word.at(pointer) + d;
        now.layDown(cell, now.registers[r]);
        return cell;
    }

    public int block(int s, int d, int t, int e, int n) {
        if (!isRegister(s) || !isRegister(t) || n < 1 || n > MOST_CELLS) {
            return BAD;
        }
        long target = now.registers[s];
        int fault = faultOf(target, TO_LAY, d, n);
        if (fault != FINE) {
            return fault;
        }
        long source = now.registers[t];
        fault = faultOf(source, TO_LOOK, e, n);
        if (fault != FINE) {
            return fault;
        }
        history.keep(now);
        carry(Word.at(target) + d, Word.at(source) + e, n);
        return n;
    }

    public int sweep() {
        if (now.sweeping) {
            return NO;
        }
        history.keep(now);
        return now.beginSweep();
    }

    public int step(int n) {
        if (n < 1 || n > PAGES) {
            return BAD;
        }
        if (!now.sweeping) {
            return NO;
        }
        history.keep(now);
        return now.lookAtNextPages(n);
    }

    public int end() {
        if (!now.sweeping || now.seenPages < PAGES) {
            return NO;
        }
        history.keep(now);
        return now.finishSweep();
    }

    public int told(int where, int i, int what) {
        if (where == 0 && isRegister(i)) {
            return toldOf(now.registers[i], FREE_CELL, what);
        }
        if (where == 1 && isCell(i)) {
            return toldOf(now.cells[i], now.useOf(i), what);
        }
        return FAR + BAD;
    }

    public int page(int p, int what) {
        if (p < 0 || p >= PAGES) {
            return BAD;
        }
        int from = p * PAGE_CELLS;
        int to = from + PAGE_CELLS;
        switch (what) {
            case 0: return oneIf(now.isSeen(p));
            case 1: return oneIf(now.isDirty(p));
            case 2: return now.pointersIn(from, to);
            case 3: return now.given.sizeWithin(from, to);
            case 4: return now.quarantined.sizeWithin(from, to);
            default: return BAD;
        }
    }

    public int range(int i, int what) {
        if (!isCell(i) || what < 0 || what > 1) {
            return BAD;
        }
        if (!now.given.has(i)) {
            return NONE;
        }
        int first = now.rangeFrom(i);
        return what == 0 ? first : now.rangeTo(i) - first;
    }

    public int undo() {
        if (history.size == 0) {
            return NO;
        }
        history.takeBack(now);
        return 1;
    }

    public int count(int what) {
        if (what >= FIRST_TALLY && what < AFTER_TALLIES) {
            return now.tallies[what - FIRST_TALLY];
        }
        int given = now.given.size();
        int quarantined = now.quarantined.size();
        switch (what) {
            case 0: return CELLS - given - quarantined;
            case 1: return given;
            case 2: return quarantined;
            case 3: return now.doomed.size();
            case 4: return now.firsts.size();
            case 12: return oneIf(now.sweeping);
            case 13: return history.size;
            default: return BAD;
        }
    }

    private void carry(int target, int source, int n) {
        for (int i = 0; i < n; i++) {
            carried[i] = now.lookUp(source + i);
        }
        for (int i = 0; i < n; i++) {
            now.layDown(target + i, carried[i]);
        }
    }

    private int toldOf(long word, int use, int what) {
        switch (what) {
            case 0: return oneIf(Word.isPointer(word));
            case 1: return Word.at(word);
            case 2: return Word.from(word);
            case 3: return Word.to(word);
            case 4: return Word.rights(word);
            case 5: return use;
            case 6: return oneIf(now.isStale(word));
            default: return FAR + BAD;
        }
    }

    /** What keeps the word from being used for n cells from d on: the first of TAG, RIGHT, BOUNDS, or FINE. */
    private static int faultOf(long word, int right, int d, int n) {
        if (!Word.isPointer(word)) {
            return TAG;
        }
        if ((Word.rights(word) & right) == 0) {
            return RIGHT;
        }
        return Word.covers(word, d, n) ? FINE : BOUNDS;
    }

    private static boolean isRegister(int r) {
        return r >= 0 && r < REGISTERS;
    }

    private static boolean isCell(int i) {
        return i >= 0 && i < CELLS;
    }

    private static int oneIf(boolean holds) {
        return holds ? 1 : 0;
    }

    /**
     * A number or a pointer in one long, so that no call has to make objects: the number or AT in the
     * low 32 bits, above them FROM, TO, RIGHTS and the tag, which are all 0 in a number.
     */
    private static final class Word {
        private static final int FROM_SHIFT = 32, TO_SHIFT = 41, RIGHTS_SHIFT = 50, TAG_SHIFT = 52;
        private static final int BOUND_MASK = 511;
        private static final long NUMBER_MASK = 0xFFFFFFFFL;

        static long ofNumber(int v) {
            return v & NUMBER_MASK;
        }

        static long ofPointer(int from, int to, int at, int rights) {
            return ofNumber(at)
                    | (long) from << FROM_SHIFT
                    | (long) to << TO_SHIFT
                    | (long) rights << RIGHTS_SHIFT
                    | 1L << TAG_SHIFT;
        }

        static boolean isPointer(long word) {
            return (word >>> TAG_SHIFT) != 0;
        }

        static int at(long word) {
            return (int) word;
        }

        static int from(long word) {
            return (int) (word >>> FROM_SHIFT) & BOUND_MASK;
        }

        static int to(long word) {
            return (int) (word >>> TO_SHIFT) & BOUND_MASK;
        }

        static int rights(long word) {
            return (int) (word >>> RIGHTS_SHIFT) & ALL_RIGHTS;
        }

        /** In longs, because AT with d and n added must not wrap back into the bounds. */
        static boolean covers(long word, int d, int n) {
            long first = (long) at(word) + d;
            return first >= from(word) && first + n <= to(word);
        }
    }

    /** A set of cells, a bit for each, so that it is cheap to keep for undo(). */
    private static final class CellMap {
        private static final int ROWS = 4, ROW_SHIFT = 6, ROW_CELLS = 64, ROW_MASK = 63;

        private final long[] rows = new long[ROWS];

        boolean has(int cell) {
            return isCell(cell) && (rows[cell >> ROW_SHIFT] & 1L << (cell & ROW_MASK)) != 0;
        }

        void add(int cell) {
            if (isCell(cell)) {
                rows[cell >> ROW_SHIFT] |= 1L << (cell & ROW_MASK);
            }
        }

        void drop(int cell) {
            if (isCell(cell)) {
                rows[cell >> ROW_SHIFT] &= ~(1L << (cell & ROW_MASK));
            }
        }

        void dropAllOf(CellMap other) {
            for (int i = 0; i < ROWS; i++) {
                rows[i] &= ~other.rows[i];
            }
        }

        void become(CellMap other) {
            System.arraycopy(other.rows, 0, rows, 0, ROWS);
        }

        int size() {
            return sizeWithin(0, CELLS);
        }

        /** Row by row, because every pointer that a sweep looks at asks for this. */
        int sizeWithin(int from, int to) {
            int size = 0;
            for (int i = 0; i < ROWS; i++) {
                int first = i * ROW_CELLS;
                size += Long.bitCount(rows[i] & bitsBelow(to - first) & ~bitsBelow(from - first));
            }
            return size;
        }

        private static long bitsBelow(int bit) {
            if (bit <= 0) {
                return 0L;
            }
            return bit < ROW_CELLS ? (1L << bit) - 1L : -1L;
        }
    }

    /** All that an act can change, in one object that undo() can put back whole. */
    private static final class State {
        final long[] cells = new long[CELLS];
        final long[] registers = new long[REGISTERS];
        final int[] tallies = new int[TALLIES];
        final CellMap given = new CellMap();
        /** The shadow. */
        final CellMap quarantined = new CellMap();
        /** Empty while no sweep is on, so that no pointer is stale then. */
        final CellMap doomed = new CellMap();
        /** The first cell of each range: neighbouring ranges are told apart by it. */
        final CellMap firsts = new CellMap();
        boolean sweeping = false;
        /** Steps go by number, so the pages that are seen are those below this one. */
        int seenPages = 0;
        /** A bit for each page. */
        int dirtyPages = 0;

        void become(State other) {
            System.arraycopy(other.cells, 0, cells, 0, CELLS);
            System.arraycopy(other.registers, 0, registers, 0, REGISTERS);
            System.arraycopy(other.tallies, 0, tallies, 0, TALLIES);
            given.become(other.given);
            quarantined.become(other.quarantined);
            doomed.become(other.doomed);
            firsts.become(other.firsts);
            sweeping = other.sweeping;
            seenPages = other.seenPages;
            dirtyPages = other.dirtyPages;
        }

        int useOf(int cell) {
            if (given.has(cell)) {
                return GIVEN_CELL;
            }
            return quarantined.has(cell) ? QUARANTINED_CELL : FREE_CELL;
        }

        /** The first cell of the first n free ones in a row, or -1. */
        int firstFreeRow(int n) {
            int free = 0;
            for (int cell = 0; cell < CELLS; cell++) {
                free = useOf(cell) == FREE_CELL ? free + 1 : 0;
                if (free == n) {
                    return cell - n + 1;
                }
            }
            return -1;
        }

        void giveOut(int from, int to) {
            firsts.add(from);
            for (int cell = from; cell < to; cell++) {
                given.add(cell);
                cells[cell] = Word.ofNumber(0);
            }
        }

        void giveBack(int from, int to) {
            firsts.drop(from);
            for (int cell = from; cell < to; cell++) {
                given.drop(cell);
                quarantined.add(cell);
            }
        }

        boolean isRange(int from, int to) {
            return given.has(from) && firsts.has(from) && rangeTo(from) == to;
        }

        /** Asked only of a cell that is given out. */
        int rangeFrom(int cell) {
            int first = cell;
            while (first > 0 && !firsts.has(first)) {
                first--;
            }
            return first;
        }

        /** Asked only of a cell that is given out. */
        int rangeTo(int cell) {
            int to = cell + 1;
            while (to < CELLS && given.has(to) && !firsts.has(to)) {
                to++;
            }
            return to;
        }

        int pointersIn(int from, int to) {
            int pointers = 0;
            for (int cell = from; cell < to; cell++) {
                pointers += oneIf(Word.isPointer(cells[cell]));
            }
            return pointers;
        }

        boolean isSeen(int page) {
            return page < seenPages;
        }

        boolean isDirty(int page) {
            return (dirtyPages >> page & 1) != 0;
        }

        boolean isStale(long word) {
            return Word.isPointer(word) && doomed.sizeWithin(Word.from(word), Word.to(word)) > 0;
        }

        long lookUp(int cell) {
            long word = cells[cell];
            if (!isStale(word)) {
                return word;
            }
            tallies[BY_LOOKING]++;
            return Word.ofNumber(Word.at(word));
        }

        void layDown(int cell, long word) {
            cells[cell] = word;
            int page = cell / PAGE_CELLS;
            if (Word.isPointer(word) && isSeen(page)) {
                dirtyPages |= 1 << page;
            }
        }

        int beginSweep() {
            sweeping = true;
            doomed.become(quarantined);
            return doomed.size();
        }

        int lookAtNextPages(int n) {
            int stop = Math.min(PAGES, seenPages + n);
            int taken = 0;
            for (int page = seenPages; page < stop; page++) {
                taken += cleanPage(page);
            }
            tallies[PAGES_IN_STEPS] += stop - seenPages;
            tallies[IN_STEPS] += taken;
            seenPages = stop;
            return taken;
        }

        int finishSweep() {
            for (int page = 0; page < PAGES; page++) {
                if (isDirty(page)) {
                    tallies[AT_END_IN_PAGES] += cleanPage(page);
                    tallies[PAGES_AT_END]++;
                }
            }
            tallies[IN_REGISTERS] += clean(registers, 0, REGISTERS);
            tallies[SWEEPS_ENDED]++;
            int freed = doomed.size();
            quarantined.dropAllOf(doomed);
            doomed.dropAllOf(doomed);
            sweeping = false;
            seenPages = 0;
            dirtyPages = 0;
            return freed;
        }

        private int cleanPage(int page) {
            int from = page * PAGE_CELLS;
            return clean(cells, from, from + PAGE_CELLS);
        }

        /** Makes numbers of the stale pointers among the words, and answers how many there were. */
        private int clean(long[] words, int from, int to) {
            int taken = 0;
            for (int i = from; i < to; i++) {
                if (isStale(words[i])) {
                    words[i] = Word.ofNumber(Word.at(words[i]));
                    taken++;
                }
            }
            return taken;
        }
    }

    /** The states ahead of the latest acts, in a ring whose rows are made once. */
    private static final class History {
        private final State[] kept = new State[ACTS];
        private int next = 0;
        int size = 0;

        History() {
            for (int i = 0; i < ACTS; i++) {
                kept[i] = new State();
            }
        }

        void keep(State now) {
            kept[next].become(now);
            next = next + 1 < ACTS ? next + 1 : 0;
            size = Math.min(ACTS, size + 1);
        }

        void takeBack(State now) {
            if (size > 0) {
                next = next > 0 ? next - 1 : ACTS - 1;
                size--;
                now.become(kept[next]);
            }
        }
    }
}
