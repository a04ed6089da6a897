/** A section for each promise of the document: ordinary calls, its edges, and wrong inputs. */
public final class PromiseTest {
    private static final int BAD = -1, NO = -2, FULL = -3, NONE = -4;
    private static final int TAG = -11, RIGHT = -12, BOUNDS = -13;
    private static final int FAR_BAD = -1000000001, FAR_TAG = -1000000011;
    private static final int MIN = Integer.MIN_VALUE, MAX = Integer.MAX_VALUE;
    private static final int[] NO_REGISTERS = {-1, 8, MIN, MAX};

    private static int wrong = 0;
    private static String section = "";

    private static void due(String call, int got, int want) {
        if (got != want) {
            wrong++;
            System.out.println(section + ": " + call + " answered " + got + ", due is " + want);
        }
    }

    public static void main(String[] args) {
        newObject();
        give();
        giveUntilFull();
        giveClearsCells();
        back();
        backWithNeighbours();
        number();
        copy();
        move();
        narrow();
        look();
        lookDuringSweep();
        lay();
        layDuringSweep();
        block();
        blockFaults();
        blockDuringSweep();
        sweep();
        step();
        end();
        endKeepsLaterQuarantine();
        told();
        page();
        range();
        undo();
        undoOfEveryAct();
        undoIsBounded();
        refusedActsAreNotKept();
        count();
        System.out.println(wrong == 0 ? "promises: all answers are as due" : wrong + " answers are not as due");
        if (wrong != 0) {
            System.exit(1);
        }
    }

    private static PointerSweep begin(String name) {
        section = name;
        return new PointerSweep();
    }

    private static void register(PointerSweep x, int r, int from, int to, int at, int rights) {
        due("told(0, " + r + ", 0)", x.told(0, r, 0), 1);
        due("told(0, " + r + ", 1)", x.told(0, r, 1), at);
        due("told(0, " + r + ", 2)", x.told(0, r, 2), from);
        due("told(0, " + r + ", 3)", x.told(0, r, 3), to);
        due("told(0, " + r + ", 4)", x.told(0, r, 4), rights);
    }

    private static void number(PointerSweep x, int where, int i, int value) {
        String place = "told(" + where + ", " + i + ", ";
        due(place + "0)", x.told(where, i, 0), 0);
        due(place + "1)", x.told(where, i, 1), value);
        due(place + "2)", x.told(where, i, 2), 0);
        due(place + "3)", x.told(where, i, 3), 0);
        due(place + "4)", x.told(where, i, 4), 0);
        due(place + "6)", x.told(where, i, 6), 0);
    }

    private static void newObject() {
        PointerSweep x = begin("1 new object");
        for (int i = 0; i < 256; i++) {
            if (i % 64 == 0) { // an object is promised for 512 calls only
                x = begin("1 new object");
            }
            number(x, 1, i, 0);
            due("told(1, " + i + ", 5)", x.told(1, i, 5), 0);
        }
        x = begin("1 new object");
        for (int r = 0; r < 8; r++) {
            number(x, 0, r, 0);
        }
        for (int p = 0; p < 16; p++) {
            for (int what = 0; what < 5; what++) {
                due("page(" + p + ", " + what + ")", x.page(p, what), 0);
            }
        }
        due("count(0)", x.count(0), 256);
        for (int what = 1; what < 14; what++) {
            due("count(" + what + ")", x.count(what), 0);
        }
        due("BAD", PointerSweep.BAD, BAD);
        due("NO", PointerSweep.NO, NO);
        due("FULL", PointerSweep.FULL, FULL);
        due("NONE", PointerSweep.NONE, NONE);
    }

    private static void give() {
        PointerSweep x = begin("2 give");
        for (int r : NO_REGISTERS) {
            due("give(" + r + ", 1)", x.give(r, 1), BAD);
        }
        for (int n : new int[] {0, -1, 65, MIN, MAX}) {
            due("give(0, " + n + ")", x.give(0, n), BAD);
        }
        due("give(0, 1)", x.give(0, 1), 0);
        register(x, 0, 0, 1, 0, 3);
        due("give(7, 64)", x.give(7, 64), 1);
        register(x, 7, 1, 65, 1, 3);
        due("told(1, 64, 5)", x.told(1, 64, 5), 1);
        due("told(1, 65, 5)", x.told(1, 65, 5), 0);
        due("give(7, 2)", x.give(7, 2), 65);
        register(x, 7, 65, 67, 65, 3);
        due("count(1)", x.count(1), 67);
        due("count(0)", x.count(0), 189);
        due("count(4)", x.count(4), 3);
    }

    private static void giveUntilFull() {
        PointerSweep x = begin("2 give FULL");
        for (int r = 0; r < 4; r++) {
            due("give(" + r + ", 63)", x.give(r, 63), 63 * r);
        }
        due("give(4, 5)", x.give(4, 5), FULL);
        due("give(8, 5)", x.give(8, 5), BAD);
        number(x, 0, 4, 0);
        due("give(4, 4)", x.give(4, 4), 252);
        register(x, 4, 252, 256, 252, 3);
        due("give(5, 1)", x.give(5, 1), FULL);
        due("back(1)", x.back(1), 63);
        due("give(5, 1)", x.give(5, 1), FULL);
        due("sweep()", x.sweep(), 63);
        due("give(5, 1)", x.give(5, 1), FULL);
        due("step(16)", x.step(16), 0);
        due("end()", x.end(), 63);
        due("give(5, 64)", x.give(5, 64), FULL);
        due("give(5, 60)", x.give(5, 60), 63);
        due("give(6, 4)", x.give(6, 4), FULL);
        due("give(6, 3)", x.give(6, 3), 123);
    }

    private static void giveClearsCells() {
        PointerSweep x = begin("2 give clears");
        x.give(0, 4);
        x.give(1, 4);
        x.number(2, 9);
        x.lay(1, 0, 2);
        x.lay(1, 1, 0);
        due("back(1)", x.back(1), 4);
        due("told(1, 4, 1)", x.told(1, 4, 1), 9);
        x.sweep();
        due("step(16)", x.step(16), 0);
        due("end()", x.end(), 4);
        due("told(1, 4, 1) of a FREE CELL", x.told(1, 4, 1), 9);
        due("told(1, 5, 0) of a FREE CELL", x.told(1, 5, 0), 1);
        due("page(0, 2)", x.page(0, 2), 1);
        due("give(3, 2)", x.give(3, 2), 4);
        number(x, 1, 4, 0);
        number(x, 1, 5, 0);
        due("page(0, 2)", x.page(0, 2), 0);
    }

    private static void back() {
        PointerSweep x = begin("3 back");
        for (int r : NO_REGISTERS) {
            due("back(" + r + ")", x.back(r), BAD);
        }
        due("back(0)", x.back(0), TAG);
        x.give(0, 10);
        x.narrow(1, 0, 9, 3);
        due("back(1) too short", x.back(1), NO);
        x.copy(2, 0);
        x.move(2, 1);
        x.narrow(2, 2, 9, 3);
        due("back(2) begins late", x.back(2), NO);
        x.narrow(3, 0, 10, 0);
        x.move(3, 500);
        due("back(3) without RIGHTS", x.back(3), 10);
        register(x, 3, 0, 10, 500, 0);
        register(x, 0, 0, 10, 0, 3);
        due("back(0) twice", x.back(0), NO);
        due("count(2)", x.count(2), 10);
        due("count(1)", x.count(1), 0);
        due("count(4)", x.count(4), 0);
        due("told(1, 0, 5)", x.told(1, 0, 5), 2);
        due("told(1, 9, 5)", x.told(1, 9, 5), 2);
        due("told(1, 10, 5)", x.told(1, 10, 5), 0);
        due("lay into QUARANTINE", x.lay(0, 9, 0), 9);
        due("look into QUARANTINE", x.look(4, 0, 9), 1);
    }

    private static void backWithNeighbours() {
        PointerSweep x = begin("3 back, neighbours");
        x.give(0, 3);
        x.give(1, 3);
        x.give(2, 3);
        due("back(1)", x.back(1), 3);
        due("range(2, 1)", x.range(2, 1), 3);
        due("range(6, 0)", x.range(6, 0), 6);
        due("back(0)", x.back(0), 3);
        due("back(2)", x.back(2), 3);
        due("count(2)", x.count(2), 9);
    }

    private static void number() {
        PointerSweep x = begin("4 number");
        for (int r : NO_REGISTERS) {
            due("number(" + r + ", 5)", x.number(r, 5), BAD);
        }
        due("number(0, MIN)", x.number(0, MIN), 0);
        number(x, 0, 0, MIN);
        due("number(7, MAX)", x.number(7, MAX), 0);
        number(x, 0, 7, MAX);
        due("number(7, -1)", x.number(7, -1), 0);
        number(x, 0, 7, -1);
        x.give(7, 5);
        due("number(7, 3)", x.number(7, 3), 0);
        number(x, 0, 7, 3);
    }

    private static void copy() {
        PointerSweep x = begin("5 copy");
        for (int r : NO_REGISTERS) {
            due("copy(" + r + ", 0)", x.copy(r, 0), BAD);
            due("copy(0, " + r + ")", x.copy(0, r), BAD);
        }
        x.give(0, 5);
        x.move(0, -7);
        x.number(1, 8);
        due("copy(7, 0)", x.copy(7, 0), 0);
        register(x, 7, 0, 5, -7, 3);
        due("copy(0, 1)", x.copy(0, 1), 0);
        number(x, 0, 0, 8);
        due("copy(7, 7)", x.copy(7, 7), 0);
        register(x, 7, 0, 5, -7, 3);
        x.move(7, 7);
        x.back(7);
        x.sweep();
        due("copy of a STALE one", x.copy(2, 7), 0);
        register(x, 2, 0, 5, 0, 3);
        due("told(0, 2, 6)", x.told(0, 2, 6), 1);
    }

    private static void move() {
        PointerSweep x = begin("6 move");
        for (int r : NO_REGISTERS) {
            due("move(" + r + ", 1)", x.move(r, 1), FAR_BAD);
        }
        due("move(0, 1)", x.move(0, 1), FAR_TAG);
        x.give(1, 4);
        x.give(0, 4);
        due("move(0, 3)", x.move(0, 3), 7);
        due("move(0, -9)", x.move(0, -9), -2);
        register(x, 0, 4, 8, -2, 3);
        due("move(0, MIN)", x.move(0, MIN), MAX - 1);
        due("move(0, MAX)", x.move(0, MAX), -3);
        due("move(0, 7)", x.move(0, 7), 4);
        register(x, 0, 4, 8, 4, 3);
        x.narrow(0, 0, 2, 1);
        due("move(0, 1)", x.move(0, 1), 5);
        register(x, 0, 4, 6, 5, 1);
        due("look(2, 0, 0)", x.look(2, 0, 0), 0);
    }

    private static void narrow() {
        PointerSweep x = begin("7 narrow");
        for (int r : NO_REGISTERS) {
            due("narrow(" + r + ", 0, 1, 0)", x.narrow(r, 0, 1, 0), BAD);
            due("narrow(0, " + r + ", 1, 0)", x.narrow(0, r, 1, 0), BAD);
        }
        for (int n : new int[] {0, -1, MIN}) {
            due("narrow(0, 0, " + n + ", 0)", x.narrow(0, 0, n, 0), BAD);
        }
        for (int k : new int[] {-1, 4, MIN, MAX}) {
            due("narrow(0, 0, 1, " + k + ")", x.narrow(0, 0, 1, k), BAD);
        }
        due("narrow of a NUMBER", x.narrow(0, 1, MAX, 3), TAG);
        x.give(7, 5);
        x.give(0, 10);
        due("narrow, too many", x.narrow(1, 0, 11, 3), BOUNDS);
        due("narrow, far too many", x.narrow(1, 0, MAX, 3), BOUNDS);
        number(x, 0, 1, 0);
        due("narrow, all", x.narrow(1, 0, 10, 3), 5);
        register(x, 1, 5, 15, 5, 3);
        x.move(0, 4);
        due("narrow, the last six", x.narrow(2, 0, 6, 2), 9);
        register(x, 2, 9, 15, 9, 2);
        due("narrow, one beyond", x.narrow(2, 0, 7, 2), BOUNDS);
        due("narrow, to look only", x.narrow(3, 2, 6, 1), 9);
        register(x, 3, 9, 15, 9, 0);
        due("narrow, rights do not come back", x.narrow(3, 3, 1, 3), 9);
        register(x, 3, 9, 10, 9, 0);
        x.move(0, -5);
        due("narrow, AT below", x.narrow(4, 0, 2, 3), BOUNDS);
        x.move(0, MAX);
        due("narrow, AT far above", x.narrow(4, 0, MAX, 3), BOUNDS);
        x.move(0, 11);
        x.move(0, 0);
        due("told(0, 0, 1)", x.told(0, 0, 1), MIN + 14);
        due("narrow, AT far below", x.narrow(4, 0, MAX, 3), BOUNDS);
    }

    private static void look() {
        PointerSweep x = begin("8 look");
        for (int r : NO_REGISTERS) {
            due("look(" + r + ", 0, 0)", x.look(r, 0, 0), BAD);
            due("look(0, " + r + ", 0)", x.look(0, r, 0), BAD);
        }
        due("look of a NUMBER", x.look(0, 1, 0), TAG);
        x.give(7, 3);
        x.give(0, 3);
        x.number(1, -5);
        x.lay(0, 0, 1);
        x.lay(0, 2, 7);
        due("look(2, 0, 0)", x.look(2, 0, 0), 0);
        number(x, 0, 2, -5);
        due("look(2, 0, 2)", x.look(2, 0, 2), 1);
        register(x, 2, 0, 3, 0, 3);
        due("look(2, 0, 3)", x.look(2, 0, 3), BOUNDS);
        due("look(2, 0, -1)", x.look(2, 0, -1), BOUNDS);
        due("look(2, 0, MAX)", x.look(2, 0, MAX), BOUNDS);
        due("look(2, 0, MIN)", x.look(2, 0, MIN), BOUNDS);
        register(x, 2, 0, 3, 0, 3);
        x.narrow(3, 0, 3, 2);
        due("RIGHT ahead of BOUNDS", x.look(2, 3, 3), RIGHT);
        x.narrow(3, 0, 3, 1);
        due("look with that RIGHT alone", x.look(2, 3, 0), 0);
        x.move(0, MAX);
        due("AT and d wrap nowhere", x.look(2, 0, MAX), BOUNDS);
        due("AT and d wrap nowhere", x.look(2, 0, MIN), BOUNDS);
        due("told(0, 0, 1)", x.told(0, 0, 1), MIN + 2);
        x.move(0, -3);
        due("told(0, 0, 1)", x.told(0, 0, 1), MAX);
        due("look(2, 0, MIN + 6)", x.look(2, 0, MIN + 6), 1);
        register(x, 2, 0, 3, 0, 3);
        x.move(0, MIN + 4);
        due("look into its own REGISTER", x.look(0, 0, 0), 0);
        number(x, 0, 0, -5);
    }

    private static void lookDuringSweep() {
        PointerSweep x = begin("8 look, SWEEP");
        x.give(0, 2);
        x.give(1, 4);
        x.move(0, 77);
        x.lay(1, 0, 0);
        x.lay(1, 1, 1);
        x.back(0);
        due("look ahead of a SWEEP", x.look(2, 1, 0), 1);
        x.sweep();
        due("look of a STALE one", x.look(2, 1, 0), 0);
        number(x, 0, 2, 77);
        due("told(1, 2, 0)", x.told(1, 2, 0), 1);
        due("told(1, 2, 6)", x.told(1, 2, 6), 1);
        due("count(8)", x.count(8), 1);
        due("look of one that is not STALE", x.look(3, 1, 1), 1);
        due("count(8)", x.count(8), 1);
        x.give(6, 1);
        x.lay(1, 2, 6);
        x.back(6);
        due("look of one GIVEN BACK since", x.look(4, 1, 2), 1);
        due("look again", x.look(2, 1, 0), 0);
        due("count(8)", x.count(8), 2);
        due("count(5)", x.count(5), 0);
    }

    private static void lay() {
        PointerSweep x = begin("9 lay");
        for (int r : NO_REGISTERS) {
            due("lay(" + r + ", 0, 0)", x.lay(r, 0, 0), BAD);
            due("lay(0, 0, " + r + ")", x.lay(0, 0, r), BAD);
        }
        due("lay by a NUMBER", x.lay(0, 0, 1), TAG);
        x.give(7, 250);
        x.give(7, 10);
        x.give(0, 6);
        x.number(1, 44);
        due("lay(0, 0, 1)", x.lay(0, 0, 1), 10);
        due("lay(0, 5, 1)", x.lay(0, 5, 1), 15);
        due("lay(0, 6, 1)", x.lay(0, 6, 1), BOUNDS);
        due("lay(0, -1, 1)", x.lay(0, -1, 1), BOUNDS);
        due("lay(0, MAX, 1)", x.lay(0, MAX, 1), BOUNDS);
        due("lay(0, MIN, 1)", x.lay(0, MIN, 1), BOUNDS);
        number(x, 1, 9, 0);
        number(x, 1, 10, 44);
        number(x, 1, 15, 44);
        number(x, 1, 16, 0);
        x.narrow(2, 0, 6, 1);
        due("RIGHT ahead of BOUNDS", x.lay(2, 6, 1), RIGHT);
        x.narrow(2, 0, 6, 2);
        due("lay with that RIGHT alone", x.lay(2, 1, 2), 11);
        due("told(1, 11, 0)", x.told(1, 11, 0), 1);
        due("told(1, 11, 1)", x.told(1, 11, 1), 10);
        due("told(1, 11, 2)", x.told(1, 11, 2), 10);
        due("told(1, 11, 3)", x.told(1, 11, 3), 16);
        due("told(1, 11, 4)", x.told(1, 11, 4), 2);
        due("page(0, 1) without a SWEEP", x.page(0, 1), 0);
        x.move(0, MIN);
        due("told(0, 0, 1)", x.told(0, 0, 1), MIN + 10);
        due("AT and d wrap nowhere", x.lay(0, MIN, 1), BOUNDS);
    }

    private static void layDuringSweep() {
        PointerSweep x = begin("9 lay, SWEEP");
        x.give(0, 64);
        x.give(1, 1);
        x.number(2, 5);
        x.sweep();
        x.step(2);
        x.lay(0, 15, 2);
        due("a NUMBER makes nothing DIRTY", x.page(0, 1), 0);
        x.lay(0, 15, 1);
        due("page(0, 1)", x.page(0, 1), 1);
        due("page(1, 1)", x.page(1, 1), 0);
        x.lay(0, 16, 0);
        due("page(1, 1)", x.page(1, 1), 1);
        x.lay(0, 32, 0);
        due("a PAGE not SEEN", x.page(2, 1), 0);
        x.step(14);
        due("page(2, 1)", x.page(2, 1), 0);
        x.lay(0, 15, 2);
        due("it stays DIRTY", x.page(0, 1), 1);
        due("end()", x.end(), 0);
        due("count(10)", x.count(10), 2);
        due("page(0, 1)", x.page(0, 1), 0);
        x.lay(0, 15, 1);
        due("page(0, 1) after THE END", x.page(0, 1), 0);
        x.sweep();
        due("page(0, 1)", x.page(0, 1), 0);
        due("page(0, 0)", x.page(0, 0), 0);
    }

    private static void block() {
        PointerSweep x = begin("10 block");
        x.give(0, 64);
        x.give(1, 64);
        for (int i = 0; i < 6; i++) {
            x.number(2, i + 1);
            x.lay(0, i, 2);
        }
        x.lay(0, 6, 1);
        due("block(1, 3, 0, 0, 7)", x.block(1, 3, 0, 0, 7), 7);
        number(x, 1, 66, 0);
        number(x, 1, 67, 1);
        number(x, 1, 72, 6);
        due("told(1, 73, 2)", x.told(1, 73, 2), 64);
        due("upwards over itself", x.block(0, 2, 0, 0, 6), 6);
        int[] up = {1, 2, 1, 2, 3, 4, 5, 6, 0};
        for (int i = 0; i < up.length; i++) {
            number(x, 1, i, up[i]);
        }
        due("downwards over itself", x.block(0, 0, 0, 3, 6), 6);
        int[] down = {2, 3, 4, 5, 6, 0, 5, 6, 0};
        for (int i = 0; i < down.length; i++) {
            number(x, 1, i, down[i]);
        }
        due("onto itself", x.block(0, 0, 0, 0, 64), 64);
        number(x, 1, 4, 6);
        due("all of it", x.block(0, 0, 1, 0, 64), 64);
        number(x, 1, 3, 1);
        due("told(1, 9, 2)", x.told(1, 9, 2), 64);
        due("the last one", x.block(0, 63, 1, 3, 1), 1);
        number(x, 1, 63, 1);
    }

    private static void blockFaults() {
        PointerSweep x = begin("10 block, faults");
        for (int r : NO_REGISTERS) {
            due("block(" + r + ", 0, 0, 0, 1)", x.block(r, 0, 0, 0, 1), BAD);
            due("block(0, 0, " + r + ", 0, 1)", x.block(0, 0, r, 0, 1), BAD);
        }
        for (int n : new int[] {0, -1, 65, MIN, MAX}) {
            due("block(0, 0, 0, 0, " + n + ")", x.block(0, 0, 0, 0, n), BAD);
        }
        x.give(0, 8);
        due("TAG of t", x.block(0, 0, 1, 0, 8), TAG);
        due("BOUNDS of s ahead of TAG of t", x.block(0, 1, 1, 0, 8), BOUNDS);
        x.narrow(2, 0, 8, 1);
        due("RIGHT of s ahead of TAG of t", x.block(2, 1, 1, 0, 8), RIGHT);
        due("TAG of s ahead of all of t", x.block(1, 0, 2, 9, 1), TAG);
        x.narrow(3, 0, 8, 2);
        due("RIGHT of t ahead of its BOUNDS", x.block(0, 0, 3, 8, 1), RIGHT);
        due("just the RIGHTS that are needed", x.block(3, 0, 2, 0, 8), 8);
        due("BOUNDS of t, above", x.block(0, 0, 0, 1, 8), BOUNDS);
        due("BOUNDS of t, below", x.block(0, 0, 0, -1, 1), BOUNDS);
        due("BOUNDS of s, below", x.block(0, -1, 0, 0, 2), BOUNDS);
        due("BOUNDS of s, far", x.block(0, MAX, 0, 0, 64), BOUNDS);
        due("BOUNDS of t, far", x.block(0, 0, 0, MAX, 1), BOUNDS);
        due("BOUNDS of t, far below", x.block(0, 0, 0, MIN, 1), BOUNDS);
    }

    private static void blockDuringSweep() {
        PointerSweep x = begin("10 block, SWEEP");
        x.give(0, 2);
        x.give(1, 62);
        x.give(2, 64);
        x.move(0, 3);
        x.lay(2, 0, 0);
        x.lay(2, 1, 1);
        x.lay(2, 2, 0);
        x.move(0, -3);
        x.back(0);
        x.sweep();
        x.step(3);
        due("block(1, 0, 2, 0, 1)", x.block(1, 0, 2, 0, 1), 1);
        number(x, 1, 2, 3);
        due("a STALE one is laid as a NUMBER", x.page(0, 1), 0);
        due("block(1, 13, 2, 0, 3)", x.block(1, 13, 2, 0, 3), 3);
        number(x, 1, 15, 3);
        due("told(1, 16, 0)", x.told(1, 16, 0), 1);
        number(x, 1, 17, 3);
        due("page(0, 1)", x.page(0, 1), 0);
        due("page(1, 1)", x.page(1, 1), 1);
        due("count(8)", x.count(8), 3);
        due("told(1, 64, 6)", x.told(1, 64, 6), 1);
        due("onto itself", x.block(2, 0, 2, 0, 3), 3);
        number(x, 1, 64, 3);
        number(x, 1, 66, 3);
        due("count(8)", x.count(8), 5);
        due("page(4, 1)", x.page(4, 1), 0);
        due("step(16)", x.step(16), 0);
    }

    private static void sweep() {
        PointerSweep x = begin("11 sweep");
        due("sweep() with no QUARANTINE", x.sweep(), 0);
        due("sweep() while one is on", x.sweep(), NO);
        x.give(0, 5);
        x.back(0);
        due("count(3)", x.count(3), 0);
        due("told(0, 0, 6)", x.told(0, 0, 6), 0);
        x.step(16);
        due("end()", x.end(), 0);
        due("sweep()", x.sweep(), 5);
        due("count(3)", x.count(3), 5);
        due("count(2)", x.count(2), 5);
        due("count(12)", x.count(12), 1);
        due("told(0, 0, 6)", x.told(0, 0, 6), 1);
        for (int p = 0; p < 16; p++) {
            due("page(" + p + ", 0)", x.page(p, 0), 0);
            due("page(" + p + ", 1)", x.page(p, 1), 0);
        }
    }

    private static void step() {
        PointerSweep x = begin("12 step");
        for (int n : new int[] {0, -1, 17, MIN, MAX}) {
            due("step(" + n + ")", x.step(n), BAD);
        }
        due("step(1)", x.step(1), NO);
        x.give(0, 2);
        x.give(1, 64);
        x.move(0, 9);
        x.lay(1, 0, 0);
        x.lay(1, 13, 0);
        x.lay(1, 14, 0);
        x.lay(1, 15, 1);
        x.lay(1, 60, 0);
        x.move(0, -9);
        x.lay(0, 1, 0);
        x.back(0);
        x.sweep();
        due("step(1)", x.step(1), 3);
        number(x, 1, 1, 0);
        number(x, 1, 2, 9);
        number(x, 1, 15, 9);
        due("told(1, 16, 0)", x.told(1, 16, 0), 1);
        due("page(0, 0)", x.page(0, 0), 1);
        due("page(1, 0)", x.page(1, 0), 0);
        due("step(2)", x.step(2), 1);
        due("told(1, 17, 0)", x.told(1, 17, 0), 1);
        due("page(2, 0)", x.page(2, 0), 1);
        due("page(3, 0)", x.page(3, 0), 0);
        due("count(9)", x.count(9), 3);
        due("step(16)", x.step(16), 1);
        due("count(9)", x.count(9), 16);
        due("page(15, 0)", x.page(15, 0), 1);
        int acts = x.count(13);
        due("step(16) with no PAGE left", x.step(16), 0);
        due("count(9)", x.count(9), 16);
        due("count(13)", x.count(13), acts + 1);
        due("count(5)", x.count(5), 5);
        due("REGISTERS are not looked at", x.told(0, 0, 6), 1);
    }

    private static void end() {
        PointerSweep x = begin("13 end");
        due("end() without a SWEEP", x.end(), NO);
        x.give(0, 3);
        x.give(1, 40);
        x.copy(7, 0);
        x.move(7, -20);
        x.back(0);
        x.sweep();
        due("end() with no PAGE SEEN", x.end(), NO);
        x.step(15);
        due("end() with one PAGE left", x.end(), NO);
        x.lay(1, 0, 7);
        x.lay(1, 1, 1);
        x.lay(1, 20, 7);
        x.lay(1, 21, 0);
        x.lay(1, 39, 1);
        x.step(1);
        due("end()", x.end(), 3);
        number(x, 1, 3, -20);
        due("told(1, 4, 0)", x.told(1, 4, 0), 1);
        number(x, 1, 23, -20);
        number(x, 1, 24, 0);
        due("told(1, 42, 0)", x.told(1, 42, 0), 1);
        number(x, 0, 0, 0);
        number(x, 0, 7, -20);
        register(x, 1, 3, 43, 3, 3);
        due("count(6)", x.count(6), 3);
        due("count(7)", x.count(7), 2);
        due("count(10)", x.count(10), 3);
        due("count(11)", x.count(11), 1);
        due("count(12)", x.count(12), 0);
        due("count(3)", x.count(3), 0);
        due("told(1, 0, 5)", x.told(1, 0, 5), 0);
        due("page(0, 0)", x.page(0, 0), 0);
        due("end() again", x.end(), NO);
        due("step(1) after it", x.step(1), NO);
    }

    private static void endKeepsLaterQuarantine() {
        PointerSweep x = begin("13 end, later QUARANTINE");
        x.give(0, 4);
        x.give(1, 5);
        x.lay(1, 0, 1);
        x.back(0);
        x.sweep();
        x.step(8);
        due("back(1)", x.back(1), 5);
        due("told(0, 1, 6)", x.told(0, 1, 6), 0);
        x.step(8);
        due("end()", x.end(), 4);
        due("count(2)", x.count(2), 5);
        due("count(0)", x.count(0), 251);
        register(x, 1, 4, 9, 4, 3);
        due("told(1, 4, 0)", x.told(1, 4, 0), 1);
        due("sweep()", x.sweep(), 5);
        due("step(16)", x.step(16), 1);
        due("end()", x.end(), 5);
        due("count(5)", x.count(5), 1);
        due("count(7)", x.count(7), 2);
        due("count(9)", x.count(9), 32);
        due("count(11)", x.count(11), 2);
        due("count(0)", x.count(0), 256);
    }

    private static void told() {
        PointerSweep x = begin("14 told");
        for (int r : NO_REGISTERS) {
            due("told(0, " + r + ", 0)", x.told(0, r, 0), FAR_BAD);
        }
        for (int i : new int[] {-1, 256, MIN, MAX}) {
            due("told(1, " + i + ", 0)", x.told(1, i, 0), FAR_BAD);
        }
        for (int where : new int[] {-1, 2, MIN, MAX}) {
            due("told(" + where + ", 0, 0)", x.told(where, 0, 0), FAR_BAD);
        }
        for (int what : new int[] {-1, 7, MIN, MAX}) {
            due("told(0, 0, " + what + ")", x.told(0, 0, what), FAR_BAD);
            due("told(1, 0, " + what + ")", x.told(1, 0, what), FAR_BAD);
        }
        x.give(1, 64);
        x.give(2, 64);
        x.give(3, 64);
        x.give(4, 64);
        register(x, 4, 192, 256, 192, 3);
        x.lay(4, 63, 4);
        due("told(1, 255, 0)", x.told(1, 255, 0), 1);
        due("told(1, 255, 1)", x.told(1, 255, 1), 192);
        due("told(1, 255, 2)", x.told(1, 255, 2), 192);
        due("told(1, 255, 3)", x.told(1, 255, 3), 256);
        due("told(1, 255, 4)", x.told(1, 255, 4), 3);
        due("told(1, 255, 5)", x.told(1, 255, 5), 1);
        due("told(1, 255, 6)", x.told(1, 255, 6), 0);
        due("told(0, 4, 5)", x.told(0, 4, 5), 0);
        x.back(4);
        due("told(1, 255, 5)", x.told(1, 255, 5), 2);
        due("told(0, 4, 6) without a SWEEP", x.told(0, 4, 6), 0);
        x.sweep();
        due("told(0, 4, 6)", x.told(0, 4, 6), 1);
        due("told(0, 3, 6)", x.told(0, 3, 6), 0);
        due("told(1, 255, 6)", x.told(1, 255, 6), 1);
        due("told(1, 254, 6)", x.told(1, 254, 6), 0);
        due("told(0, 4, 5)", x.told(0, 4, 5), 0);
    }

    private static void page() {
        PointerSweep x = begin("15 page");
        for (int p : new int[] {-1, 16, MIN, MAX}) {
            due("page(" + p + ", 0)", x.page(p, 0), BAD);
        }
        for (int what : new int[] {-1, 5, MIN, MAX}) {
            due("page(0, " + what + ")", x.page(0, what), BAD);
        }
        x.give(0, 10);
        x.give(1, 10);
        x.lay(0, 0, 0);
        x.lay(1, 5, 0);
        x.lay(1, 6, 0);
        x.lay(1, 9, 1);
        due("page(0, 2)", x.page(0, 2), 2);
        due("page(1, 2)", x.page(1, 2), 2);
        due("page(0, 3)", x.page(0, 3), 16);
        due("page(1, 3)", x.page(1, 3), 4);
        x.back(1);
        due("page(0, 3)", x.page(0, 3), 10);
        due("page(0, 4)", x.page(0, 4), 6);
        due("page(1, 3)", x.page(1, 3), 0);
        due("page(1, 4)", x.page(1, 4), 4);
        due("page(1, 2)", x.page(1, 2), 2);
        x.sweep();
        x.step(16);
        due("page(1, 2)", x.page(1, 2), 1);
        due("page(15, 0)", x.page(15, 0), 1);
        x.end();
        due("page(15, 0)", x.page(15, 0), 0);
        due("page(1, 4)", x.page(1, 4), 0);
    }

    private static void range() {
        PointerSweep x = begin("16 range");
        for (int i : new int[] {-1, 256, MIN, MAX}) {
            due("range(" + i + ", 0)", x.range(i, 0), BAD);
        }
        for (int what : new int[] {-1, 2, MIN, MAX}) {
            due("range(0, " + what + ")", x.range(0, what), BAD);
        }
        due("range(0, 0)", x.range(0, 0), NONE);
        x.give(0, 1);
        x.give(0, 64);
        x.give(1, 64);
        x.give(2, 64);
        x.give(3, 63);
        due("range(0, 0)", x.range(0, 0), 0);
        due("range(0, 1)", x.range(0, 1), 1);
        due("range(1, 0)", x.range(1, 0), 1);
        due("range(64, 0)", x.range(64, 0), 1);
        due("range(64, 1)", x.range(64, 1), 64);
        due("range(65, 0)", x.range(65, 0), 65);
        due("range(255, 0)", x.range(255, 0), 193);
        due("range(255, 1)", x.range(255, 1), 63);
        due("range(0, 2)", x.range(0, 2), BAD);
        x.back(0);
        due("range(1, 0)", x.range(1, 0), NONE);
        due("range(64, 1)", x.range(64, 1), NONE);
        due("range(65, 1)", x.range(65, 1), 64);
        due("range(0, 1)", x.range(0, 1), 1);
    }

    private static void undo() {
        PointerSweep x = begin("17 undo");
        due("undo() with none", x.undo(), NO);
        x.give(0, 3);
        x.lay(0, 1, 0);
        x.number(0, 4);
        due("undo()", x.undo(), 1);
        register(x, 0, 0, 3, 0, 3);
        due("undo()", x.undo(), 1);
        number(x, 1, 1, 0);
        due("undo()", x.undo(), 1);
        number(x, 0, 0, 0);
        due("count(1)", x.count(1), 0);
        due("count(4)", x.count(4), 0);
        due("undo()", x.undo(), NO);
        due("give(5, 2)", x.give(5, 2), 0);
        due("count(13)", x.count(13), 1);
    }

    private static void undoOfEveryAct() {
        PointerSweep x = begin("17 undo, every act");
        x.give(0, 3);
        x.give(1, 20);
        x.lay(1, 0, 0);
        x.back(0);
        due("undo() of back", x.undo(), 1);
        due("count(2)", x.count(2), 0);
        due("range(2, 1)", x.range(2, 1), 3);
        due("back(0)", x.back(0), 3);
        due("sweep()", x.sweep(), 3);
        due("undo() of sweep", x.undo(), 1);
        due("count(12)", x.count(12), 0);
        due("count(3)", x.count(3), 0);
        due("sweep()", x.sweep(), 3);
        x.look(2, 1, 0);
        due("undo() of look", x.undo(), 1);
        due("count(8)", x.count(8), 0);
        due("step(4)", x.step(4), 1);
        due("undo() of step", x.undo(), 1);
        due("page(0, 0)", x.page(0, 0), 0);
        due("count(5)", x.count(5), 0);
        due("count(9)", x.count(9), 0);
        due("told(1, 3, 6)", x.told(1, 3, 6), 1);
        due("step(16)", x.step(16), 1);
        x.lay(1, 1, 0);
        due("undo() of lay", x.undo(), 1);
        due("page(0, 1)", x.page(0, 1), 0);
        number(x, 1, 4, 0);
        x.lay(1, 1, 0);
        due("end()", x.end(), 3);
        due("undo() of end", x.undo(), 1);
        due("count(6)", x.count(6), 0);
        due("count(7)", x.count(7), 0);
        due("count(10)", x.count(10), 0);
        due("count(11)", x.count(11), 0);
        due("count(12)", x.count(12), 1);
        due("count(3)", x.count(3), 3);
        due("count(2)", x.count(2), 3);
        due("page(0, 1)", x.page(0, 1), 1);
        due("page(15, 0)", x.page(15, 0), 1);
        due("told(0, 0, 6)", x.told(0, 0, 6), 1);
        due("told(1, 4, 6)", x.told(1, 4, 6), 1);
        due("end()", x.end(), 3);
    }

    private static void undoIsBounded() {
        PointerSweep x = begin("17 undo, 24 acts");
        for (int i = 1; i <= 60; i++) {
            x.number(0, i);
            due("count(13)", x.count(13), Math.min(i, 24));
        }
        for (int i = 1; i <= 24; i++) {
            due("undo()", x.undo(), 1);
            due("told(0, 0, 1)", x.told(0, 0, 1), 60 - i);
            due("count(13)", x.count(13), 24 - i);
        }
        due("undo()", x.undo(), NO);
        due("told(0, 0, 1)", x.told(0, 0, 1), 36);
        x.number(0, 5);
        due("undo()", x.undo(), 1);
        due("told(0, 0, 1)", x.told(0, 0, 1), 36);
        due("undo()", x.undo(), NO);
    }

    private static void refusedActsAreNotKept() {
        PointerSweep x = begin("17 undo, refused acts");
        x.give(8, 1);
        x.back(0);
        x.number(8, 1);
        x.copy(8, 0);
        x.move(0, 1);
        x.narrow(0, 0, 1, 1);
        x.look(0, 0, 0);
        x.lay(0, 0, 0);
        x.block(0, 0, 0, 0, 1);
        x.step(1);
        x.end();
        due("count(13)", x.count(13), 0);
        x.sweep();
        x.sweep();
        x.end();
        x.step(0);
        due("count(13)", x.count(13), 1);
        x.copy(0, 0);
        x.number(0, 0);
        due("count(13), nothing changed", x.count(13), 3);
        x.told(0, 0, 0);
        x.page(0, 0);
        x.range(0, 0);
        x.count(0);
        due("count(13), only asked", x.count(13), 3);
        x.give(0, 1);
        x.move(0, 0);
        x.narrow(0, 0, 1, 3);
        x.look(1, 0, 0);
        x.lay(0, 0, 1);
        x.block(0, 0, 0, 0, 1);
        x.back(0);
        x.step(16);
        x.end();
        due("count(13), each act once", x.count(13), 12);
    }

    private static void count() {
        PointerSweep x = begin("18 count");
        for (int what : new int[] {-1, 14, MIN, MAX}) {
            due("count(" + what + ")", x.count(what), BAD);
        }
        x.give(0, 2);
        x.give(1, 30);
        x.give(2, 8);
        x.lay(1, 0, 0);
        x.lay(1, 20, 0);
        x.lay(1, 21, 0);
        x.back(0);
        x.sweep();
        x.look(3, 1, 0);
        x.step(1);
        x.lay(1, 1, 0);
        x.back(2);
        int[] during = {216, 30, 10, 2, 1, 1, 0, 0, 1, 1, 0, 0, 1, 12};
        for (int what = 0; what < during.length; what++) {
            due("count(" + what + ")", x.count(what), during[what]);
        }
        x.step(16);
        x.end();
        int[] after = {218, 30, 8, 0, 1, 3, 1, 1, 1, 16, 1, 1, 0, 14};
        for (int what = 0; what < after.length; what++) {
            due("count(" + what + ")", x.count(what), after[what]);
        }
    }
}
