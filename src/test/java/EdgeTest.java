/** A test for each sentence of promises 1 to 18 that names a boundary; main() has the sentences. */
public final class EdgeTest {
    private static final int BAD = -1, NO = -2, FULL = -3, NONE = -4;
    private static final int TAG = -11, RIGHT = -12, BOUNDS = -13;
    private static final int FAR_BAD = -1000000001, FAR_TAG = -1000000011;
    private static final int MIN = Integer.MIN_VALUE, MAX = Integer.MAX_VALUE;
    private static final int[] NO_REGISTERS = {MIN, -1, 8, MAX};

    private static int wrong = 0;
    private static String sentence = "";

    private static void test(String words, Runnable body) {
        sentence = words;
        try {
            body.run();
        } catch (RuntimeException e) {
            wrong++;
            System.out.println(sentence + ": threw " + e);
        }
    }

    private static void due(String call, int got, int want) {
        if (got != want) {
            wrong++;
            System.out.println(sentence + ": " + call + " answered " + got + ", due is " + want);
        }
    }

    public static void main(String[] args) {
        test("1 All CELLS FREE with NUMBERS 0", EdgeTest::newCells);
        test("1 REGISTERS with NUMBERS 0", EdgeTest::newRegisters);
        test("1 no SWEEP is on", EdgeTest::newWithoutSweep);
        test("1 a new object, beside one in use", EdgeTest::objectsApart);
        test("2 give: BAD: r", EdgeTest::giveRegister);
        test("2 give: BAD: n (1 to 64)", EdgeTest::giveLength);
        test("2 give: AT their first, with both RIGHTS: FROM", EdgeTest::givePointer);
        test("2 give: FULL, no CELL is FREE", EdgeTest::giveNone);
        test("2 give: FULL, no row is long enough", EdgeTest::giveNoRow);
        test("2 give: FULL, QUARANTINE is not FREE", EdgeTest::giveQuarantine);
        test("3 back: how many CELLS", EdgeTest::backLength);
        test("3 back: the REGISTER stays", EdgeTest::backRegisterStays);
        test("3 back: BAD; -11", EdgeTest::backRefused);
        test("3 back: NO: not just those of a RANGE", EdgeTest::backNotARange);
        test("3 back: NO: it is a RANGE no more", EdgeTest::backNoMore);
        test("4 number: the NUMBER v", EdgeTest::number);
        test("4 number: BAD", EdgeTest::numberRefused);
        test("5 copy: what REGISTER s holds", EdgeTest::copy);
        test("5 copy: BAD", EdgeTest::copyRefused);
        test("6 move: it wraps as an int", EdgeTest::moveWraps);
        test("6 move: BOUNDS and RIGHTS stay", EdgeTest::moveKeepsTheRest);
        test("6 move: BAD, -11 answer -1000000001, -1000000011", EdgeTest::moveRefused);
        test("7 narrow: BOUNDS of n CELLS from AT on", EdgeTest::narrowBounds);
        test("7 narrow: RIGHTS only that are in both", EdgeTest::narrowRights);
        test("7 narrow: BAD: r, s, n below 1, k (0 to 3); -11", EdgeTest::narrowRefused);
        test("7 narrow: -13: not all within its own", EdgeTest::narrowOutside);
        test("8 look: 1 a POINTER, 0 a NUMBER", EdgeTest::look);
        test("8 look: BAD; -11, -12 (look), -13", EdgeTest::lookRefused);
        test("9 lay: which CELL", EdgeTest::lay);
        test("9 lay: BAD; -11, -12 (lay), -13", EdgeTest::layRefused);
        test("10 block: n CELLS", EdgeTest::blockLength);
        test("10 block: each as it was ahead of all", EdgeTest::blockOverItself);
        test("10 block: as if looked up and laid one by one", EdgeTest::blockInSweep);
        test("10 block: BAD: also n not 1 to 64", EdgeTest::blockRefused);
        test("10 block: -13 (all n CELLS)", EdgeTest::blockOutside);
        test("10 block: of s, then of t", EdgeTest::blockOrder);
        test("11 sweep: how many CELLS are DOOMED", EdgeTest::sweep);
        test("11 sweep: NO: one is on", EdgeTest::sweepRefused);
        test("12 step: n (1 to 16) STEPS", EdgeTest::stepLength);
        test("12 step: as many as PAGES are not SEEN at most", EdgeTest::stepAtMost);
        test("12 step: how many POINTERS became NUMBERS", EdgeTest::stepAnswer);
        test("12 step: BAD; NO: no SWEEP is on", EdgeTest::stepRefused);
        test("13 end: how many CELLS are FREE by it", EdgeTest::end);
        test("13 end: NO: no SWEEP is on, or a PAGE is not SEEN", EdgeTest::endRefused);
        test("14 told: of REGISTER i, CELL i", EdgeTest::toldOf);
        test("14 told: 2 to 4 of a NUMBER: 0", EdgeTest::toldOfNumber);
        test("14 told: 5 of a CELL (REGISTER: 0)", EdgeTest::toldUse);
        test("14 told: 6 STALE now (no SWEEP: 0)", EdgeTest::toldStale);
        test("14 told: BAD answers -1000000001", EdgeTest::toldRefused);
        test("15 page: 0 SEEN, 1 DIRTY (0 if no SWEEP is on)", EdgeTest::pageSeen);
        test("15 page: 2 POINTERS in it", EdgeTest::pagePointers);
        test("15 page: 3 CELLS GIVEN OUT, 4 in QUARANTINE", EdgeTest::pageCells);
        test("15 page: BAD", EdgeTest::pageRefused);
        test("16 range: 0 its first CELL, 1 how many", EdgeTest::range);
        test("16 range: NONE: it is not GIVEN OUT", EdgeTest::rangeNone);
        test("16 range: BAD", EdgeTest::rangeRefused);
        test("17 undo: The latest act is taken back: 1", EdgeTest::undo);
        test("17 undo: NO: there is none", EdgeTest::undoNone);
        test("18 count: 0 to 3 CELLS, none and all", EdgeTest::countCells);
        test("18 count: 4 RANGES", EdgeTest::countRanges);
        test("18 count: 5 to 11", EdgeTest::countTallies);
        test("18 count: 12 whether one is on", EdgeTest::countSweep);
        test("18 count: 13 acts that can be taken back", EdgeTest::countActs);
        test("18 count: BAD", EdgeTest::countRefused);
        System.out.println(wrong == 0 ? "edges: all answers are as due" : wrong + " answers are not as due");
        if (wrong != 0) {
            System.exit(1);
        }
    }

    private static void isNumber(PointerSweep x, int where, int i, int value) {
        String place = "told(" + where + ", " + i + ", ";
        due(place + "0)", x.told(where, i, 0), 0);
        due(place + "1)", x.told(where, i, 1), value);
    }

    private static void isPointer(PointerSweep x, int where, int i, int from, int to, int at, int rights) {
        String place = "told(" + where + ", " + i + ", ";
        int[] want = {1, at, from, to, rights};
        for (int what = 0; what < want.length; what++) {
            due(place + what + ")", x.told(where, i, what), want[what]);
        }
    }

    /** All CELLS given out, as four ranges of 64 in REGISTERS 0 to 3. */
    private static PointerSweep allGiven() {
        PointerSweep x = new PointerSweep();
        for (int r = 0; r < 4; r++) {
            x.give(r, 64);
        }
        return x;
    }

    private static int wholeSweep(PointerSweep x) {
        x.sweep();
        x.step(16);
        return x.end();
    }

    private static void newCells() {
        PointerSweep x = null;
        for (int i = 0; i < 256; i++) {
            if (i % 64 == 0) { // an object is promised for 512 calls only
                x = new PointerSweep();
            }
            for (int what = 0; what <= 6; what++) {
                due("told(1, " + i + ", " + what + ")", x.told(1, i, what), 0);
            }
        }
        x = new PointerSweep();
        due("count(0)", x.count(0), 256);
        for (int what = 1; what <= 13; what++) {
            due("count(" + what + ")", x.count(what), 0);
        }
        due("range(0, 0)", x.range(0, 0), NONE);
        due("range(255, 1)", x.range(255, 1), NONE);
    }

    private static void newRegisters() {
        PointerSweep x = new PointerSweep();
        for (int r = 0; r < 8; r++) {
            for (int what = 0; what <= 6; what++) {
                due("told(0, " + r + ", " + what + ")", x.told(0, r, what), 0);
            }
            due("back(" + r + ")", x.back(r), TAG);
        }
    }

    private static void newWithoutSweep() {
        PointerSweep x = new PointerSweep();
        due("count(12)", x.count(12), 0);
        due("step(1)", x.step(1), NO);
        due("end()", x.end(), NO);
        due("undo()", x.undo(), NO);
        for (int p = 0; p < 16; p++) {
            for (int what = 0; what <= 4; what++) {
                due("page(" + p + ", " + what + ")", x.page(p, what), 0);
            }
        }
    }

    private static void objectsApart() {
        PointerSweep x = new PointerSweep();
        x.give(0, 64);
        x.lay(0, 0, 0);
        x.back(0);
        x.sweep();
        x.step(3);
        PointerSweep y = new PointerSweep();
        due("count(0) of the new one", y.count(0), 256);
        due("count(12) of the new one", y.count(12), 0);
        due("count(13) of the new one", y.count(13), 0);
        due("undo() of the new one", y.undo(), NO);
        isNumber(y, 0, 0, 0);
        due("give(7, 2) of the new one", y.give(7, 2), 0);
        due("count(2) of the first one", x.count(2), 64);
        due("count(13) of the first one", x.count(13), 5);
        isNumber(x, 0, 7, 0);
    }

    private static void giveRegister() {
        PointerSweep x = new PointerSweep();
        for (int r : NO_REGISTERS) {
            due("give(" + r + ", 1)", x.give(r, 1), BAD);
        }
        due("count(1)", x.count(1), 0);
        due("give(0, 1)", x.give(0, 1), 0);
        due("give(7, 1)", x.give(7, 1), 1);
        due("count(1)", x.count(1), 2);
    }

    private static void giveLength() {
        PointerSweep x = new PointerSweep();
        for (int n : new int[] {MIN, -64, -1, 0, 65, 256, MAX}) {
            due("give(0, " + n + ")", x.give(0, n), BAD);
        }
        isNumber(x, 0, 0, 0);
        due("give(0, 64)", x.give(0, 64), 0);
        isPointer(x, 0, 0, 0, 64, 0, 3);
        due("give(1, 1)", x.give(1, 1), 64);
        isPointer(x, 0, 1, 64, 65, 64, 3);
        due("count(1)", x.count(1), 65);
    }

    private static void givePointer() {
        PointerSweep x = allGiven();
        isPointer(x, 0, 0, 0, 64, 0, 3);
        isPointer(x, 0, 3, 192, 256, 192, 3);
        x.back(3);
        due("end()", wholeSweep(x), 64);
        due("give(4, 63)", x.give(4, 63), 192);
        x.copy(5, 4);
        due("give(5, 1), over a POINTER", x.give(5, 1), 255);
        isPointer(x, 0, 5, 255, 256, 255, 3);
        due("lay(5, 0, 5)", x.lay(5, 0, 5), 255);
        due("look(6, 5, 0)", x.look(6, 5, 0), 1);
    }

    private static void giveNone() {
        PointerSweep x = allGiven();
        due("give(4, 1)", x.give(4, 1), FULL);
        due("give(4, 64)", x.give(4, 64), FULL);
        due("give(0, 1), over a POINTER", x.give(0, 1), FULL);
        isNumber(x, 0, 4, 0);
        isPointer(x, 0, 0, 0, 64, 0, 3);
        due("count(13)", x.count(13), 4);
    }

    private static void giveNoRow() {
        PointerSweep x = new PointerSweep();
        for (int i = 0; i < 12; i++) {
            due("give", x.give(i % 2, 21), 21 * i);
            if (i % 2 == 0) {
                x.back(0);
            }
        }
        due("give(2, 4)", x.give(2, 4), 252);
        due("six rows of 21", wholeSweep(x), 126);
        due("126 CELLS are FREE, but no 22 in a row", x.give(3, 22), FULL);
        due("one more than is FREE at all", x.give(3, 64), FULL);
        due("just 21", x.give(3, 21), 0);
        due("the next 21", x.give(3, 21), 42);
    }

    private static void giveQuarantine() {
        PointerSweep x = allGiven();
        x.back(2);
        due("in QUARANTINE", x.give(4, 1), FULL);
        x.sweep();
        due("DOOMED", x.give(4, 1), FULL);
        x.back(1);
        x.step(16);
        due("all PAGES are SEEN", x.give(4, 1), FULL);
        due("end()", x.end(), 64);
        due("FREE", x.give(4, 64), 128);
        due("GIVEN BACK since the SWEEP began", x.give(5, 1), FULL);
    }

    private static void backLength() {
        PointerSweep x = new PointerSweep();
        x.give(0, 1);
        x.give(1, 64);
        due("back(0)", x.back(0), 1);
        due("back(1)", x.back(1), 64);
        due("count(2)", x.count(2), 65);
        PointerSweep y = allGiven();
        due("back(3), up to CELL 255", y.back(3), 64);
        due("told(1, 191, 5)", y.told(1, 191, 5), 1);
        due("told(1, 192, 5)", y.told(1, 192, 5), 2);
        due("told(1, 255, 5)", y.told(1, 255, 5), 2);
    }

    private static void backRegisterStays() {
        PointerSweep x = new PointerSweep();
        x.give(0, 5);
        x.move(0, MIN);
        x.copy(7, 0);
        due("back(7)", x.back(7), 5);
        isPointer(x, 0, 7, 0, 5, MIN, 3);
        isPointer(x, 0, 0, 0, 5, MIN, 3);
    }

    private static void backRefused() {
        PointerSweep x = new PointerSweep();
        for (int r : NO_REGISTERS) {
            due("back(" + r + ")", x.back(r), BAD);
        }
        x.give(0, 5);
        x.number(1, 0);
        due("back(1), a NUMBER that is its FROM", x.back(1), TAG);
        due("count(2)", x.count(2), 0);
    }

    private static void backNotARange() {
        PointerSweep x = new PointerSweep();
        x.give(0, 2);
        x.give(1, 3);
        x.give(2, 2);
        x.narrow(3, 1, 2, 3);
        due("its last CELL is missing", x.back(3), NO);
        x.copy(4, 1);
        x.move(4, 1);
        x.narrow(4, 4, 2, 3);
        due("its first CELL is missing", x.back(4), NO);
        x.narrow(5, 4, 1, 3);
        due("only one within", x.back(5), NO);
        due("count(2)", x.count(2), 0);
        x.narrow(6, 1, 3, 0);
        due("all of it, without RIGHTS", x.back(6), 3);
        due("its neighbour below", x.back(0), 2);
        due("its neighbour above", x.back(2), 2);
    }

    private static void backNoMore() {
        PointerSweep x = new PointerSweep();
        x.give(0, 4);
        x.copy(1, 0);
        due("back(0)", x.back(0), 4);
        due("the same REGISTER again", x.back(0), NO);
        due("another REGISTER", x.back(1), NO);
        x.sweep();
        due("DOOMED", x.back(0), NO);
        x.step(16);
        x.end();
        due("after THE END it is a NUMBER", x.back(0), TAG);
        due("GIVEN OUT anew", x.give(2, 4), 0);
        due("back(2)", x.back(2), 4);
    }

    private static void number() {
        PointerSweep x = new PointerSweep();
        for (int v : new int[] {MIN, FAR_TAG, FAR_BAD, -1, 0, 1, MAX}) {
            due("number(7, " + v + ")", x.number(7, v), 0);
            isNumber(x, 0, 7, v);
        }
        x.give(7, 2);
        due("over a POINTER", x.number(7, 0), 0);
        isNumber(x, 0, 7, 0);
        due("its RANGE stays", x.count(1), 2);
    }

    private static void numberRefused() {
        PointerSweep x = new PointerSweep();
        for (int r : NO_REGISTERS) {
            due("number(" + r + ", 1)", x.number(r, 1), BAD);
        }
        for (int r = 0; r < 8; r++) {
            isNumber(x, 0, r, 0);
        }
    }

    private static void copy() {
        PointerSweep x = new PointerSweep();
        x.give(0, 3);
        x.narrow(0, 0, 2, 1);
        x.move(0, MAX);
        due("a POINTER", x.copy(7, 0), 0);
        isPointer(x, 0, 7, 0, 2, MAX, 1);
        x.number(1, MIN);
        due("a NUMBER over a POINTER", x.copy(7, 1), 0);
        isNumber(x, 0, 7, MIN);
        due("onto itself", x.copy(0, 0), 0);
        isPointer(x, 0, 0, 0, 2, MAX, 1);
        due("onto itself", x.copy(1, 1), 0);
        isNumber(x, 0, 1, MIN);
    }

    private static void copyRefused() {
        PointerSweep x = new PointerSweep();
        x.number(0, 5);
        for (int r : NO_REGISTERS) {
            due("copy(" + r + ", 0)", x.copy(r, 0), BAD);
            due("copy(0, " + r + ")", x.copy(0, r), BAD);
            due("copy(" + r + ", " + r + ")", x.copy(r, r), BAD);
        }
        isNumber(x, 0, 0, 5);
    }

    private static void moveWraps() {
        PointerSweep x = new PointerSweep();
        x.give(0, 4);
        due("up to the end", x.move(0, MAX), MAX);
        due("one beyond", x.move(0, 1), MIN);
        due("one back", x.move(0, -1), MAX);
        due("none", x.move(0, 0), MAX);
        due("MAX and MAX", x.move(0, MAX), -2);
        due("MIN", x.move(0, MIN), MAX - 1);
        due("MIN again", x.move(0, MIN), -2);
        due("back within", x.move(0, 4), 2);
        due("look", x.look(1, 0, 0), 0);
        due("an answer like BAD", x.move(0, FAR_BAD - 2), FAR_BAD);
        due("it is an act", x.told(0, 0, 1), FAR_BAD);
        due("an answer like -11", x.move(0, -10), FAR_TAG);
        due("it is an act", x.told(0, 0, 1), FAR_TAG);
    }

    private static void moveKeepsTheRest() {
        PointerSweep x = new PointerSweep();
        x.give(1, 3);
        x.give(0, 4);
        x.move(0, 1);
        x.narrow(0, 0, 2, 2);
        due("to TO", x.move(0, 2), 6);
        isPointer(x, 0, 0, 4, 6, 6, 2);
        due("below FROM", x.move(0, -3), 3);
        isPointer(x, 0, 0, 4, 6, 3, 2);
        due("below all CELLS", x.move(0, -4), -1);
        isPointer(x, 0, 0, 4, 6, -1, 2);
        due("above all CELLS", x.move(0, 257), 256);
        isPointer(x, 0, 0, 4, 6, 256, 2);
    }

    private static void moveRefused() {
        PointerSweep x = new PointerSweep();
        for (int r : NO_REGISTERS) {
            due("move(" + r + ", 1)", x.move(r, 1), FAR_BAD);
        }
        x.number(3, 8);
        due("move(3, 1)", x.move(3, 1), FAR_TAG);
        due("move(3, 0)", x.move(3, 0), FAR_TAG);
        isNumber(x, 0, 3, 8);
        due("count(13)", x.count(13), 1);
    }

    private static void narrowBounds() {
        PointerSweep x = new PointerSweep();
        x.give(7, 6);
        x.give(0, 10);
        due("all", x.narrow(1, 0, 10, 3), 6);
        isPointer(x, 0, 1, 6, 16, 6, 3);
        due("one", x.narrow(1, 0, 1, 3), 6);
        isPointer(x, 0, 1, 6, 7, 6, 3);
        x.move(0, 9);
        due("the last one", x.narrow(1, 0, 1, 3), 15);
        isPointer(x, 0, 1, 15, 16, 15, 3);
        isPointer(x, 0, 0, 6, 16, 15, 3);
        x.move(0, -5);
        due("the last six", x.narrow(1, 0, 6, 3), 10);
        isPointer(x, 0, 1, 10, 16, 10, 3);
        due("into itself", x.narrow(0, 0, 2, 3), 10);
        isPointer(x, 0, 0, 10, 12, 10, 3);
        due("wider again", x.narrow(0, 0, 3, 3), BOUNDS);
        PointerSweep y = allGiven();
        y.move(3, 63);
        due("CELL 255", y.narrow(4, 3, 1, 3), 255);
        isPointer(y, 0, 4, 255, 256, 255, 3);
    }

    private static void narrowRights() {
        PointerSweep x = new PointerSweep();
        x.give(0, 2);
        for (int own = 0; own <= 3; own++) {
            for (int k = 0; k <= 3; k++) {
                due("narrow(1, 0, 2, " + own + ")", x.narrow(1, 0, 2, own), 0);
                due("no RIGHT is needed", x.narrow(2, 1, 2, k), 0);
                isPointer(x, 0, 2, 0, 2, 0, own & k);
            }
        }
    }

    private static void narrowRefused() {
        PointerSweep x = new PointerSweep();
        x.give(0, 3);
        for (int r : NO_REGISTERS) {
            due("narrow(" + r + ", 0, 1, 3)", x.narrow(r, 0, 1, 3), BAD);
            due("narrow(1, " + r + ", 1, 3)", x.narrow(1, r, 1, 3), BAD);
        }
        for (int n : new int[] {MIN, -1, 0}) {
            due("narrow(1, 0, " + n + ", 3)", x.narrow(1, 0, n, 3), BAD);
        }
        for (int k : new int[] {MIN, -1, 4, 7, MAX}) {
            due("narrow(1, 0, 1, " + k + ")", x.narrow(1, 0, 1, k), BAD);
        }
        due("of a NUMBER", x.narrow(0, 1, 1, 3), TAG);
        isNumber(x, 0, 1, 0);
        isPointer(x, 0, 0, 0, 3, 0, 3);
    }

    private static void narrowOutside() {
        PointerSweep x = new PointerSweep();
        x.give(7, 6);
        x.give(0, 10);
        x.give(6, 10);
        due("one too many", x.narrow(1, 0, 11, 3), BOUNDS);
        due("65", x.narrow(1, 0, 65, 3), BOUNDS);
        due("MAX", x.narrow(1, 0, MAX, 3), BOUNDS);
        x.move(0, -1);
        due("AT is FROM - 1", x.narrow(1, 0, 1, 3), BOUNDS);
        due("AT is FROM - 1, up to its end", x.narrow(1, 0, 11, 3), BOUNDS);
        x.move(0, 10);
        due("AT is TO - 1", x.narrow(1, 0, 2, 3), BOUNDS);
        x.move(0, 1);
        due("AT is TO", x.narrow(1, 0, 1, 3), BOUNDS);
        x.move(0, MAX);
        due("AT is far below", x.narrow(1, 0, MAX, 3), BOUNDS);
        isNumber(x, 0, 1, 0);
    }

    private static void look() {
        PointerSweep x = new PointerSweep();
        x.give(0, 3);
        x.number(1, MAX);
        x.lay(0, 0, 1);
        x.lay(0, 2, 0);
        due("the first CELL", x.look(7, 0, 0), 0);
        isNumber(x, 0, 7, MAX);
        due("the last CELL", x.look(7, 0, 2), 1);
        isPointer(x, 0, 7, 0, 3, 0, 3);
        x.narrow(2, 0, 3, 1);
        due("with just that RIGHT", x.look(7, 2, 1), 0);
        isNumber(x, 0, 7, 0);
        due("into its own REGISTER, a POINTER", x.look(2, 2, 2), 1);
        isPointer(x, 0, 2, 0, 3, 0, 3);
        due("into its own REGISTER, a NUMBER", x.look(2, 2, 0), 0);
        isNumber(x, 0, 2, MAX);
        PointerSweep y = allGiven();
        due("CELL 255", y.look(7, 3, 63), 0);
        due("CELL 256", y.look(7, 3, 64), BOUNDS);
        due("CELL -1", y.look(7, 0, -1), BOUNDS);
    }

    private static void lookRefused() {
        PointerSweep x = new PointerSweep();
        x.give(6, 3);
        x.give(0, 3);
        x.number(1, 8);
        for (int r : NO_REGISTERS) {
            due("look(" + r + ", 0, 0)", x.look(r, 0, 0), BAD);
            due("look(1, " + r + ", 0)", x.look(1, r, 0), BAD);
        }
        due("by a NUMBER", x.look(1, 1, 0), TAG);
        x.narrow(2, 0, 3, 2);
        due("without that RIGHT", x.look(1, 2, 0), RIGHT);
        for (int d : new int[] {MIN, -3, -1, 3, 250, MAX}) {
            due("look(1, 0, " + d + ")", x.look(1, 0, d), BOUNDS);
        }
        isNumber(x, 0, 1, 8);
    }

    private static void lay() {
        PointerSweep x = new PointerSweep();
        x.give(6, 3);
        x.give(0, 3);
        x.number(1, MIN);
        due("the first CELL", x.lay(0, 0, 1), 3);
        isNumber(x, 1, 3, MIN);
        due("the last CELL", x.lay(0, 2, 0), 5);
        isPointer(x, 1, 5, 3, 6, 3, 3);
        x.narrow(2, 0, 3, 2);
        due("with just that RIGHT, of itself", x.lay(2, 1, 2), 4);
        isPointer(x, 1, 4, 3, 6, 3, 2);
        due("a NUMBER over a POINTER", x.lay(2, 1, 1), 4);
        isNumber(x, 1, 4, MIN);
        isNumber(x, 1, 2, 0);
        isNumber(x, 1, 6, 0);
        PointerSweep y = allGiven();
        due("CELL 0", y.lay(0, 0, 3), 0);
        due("CELL 255", y.lay(3, 63, 0), 255);
        due("CELL 256", y.lay(3, 64, 0), BOUNDS);
        due("CELL -1", y.lay(0, -1, 0), BOUNDS);
        isPointer(y, 1, 0, 192, 256, 192, 3);
        isPointer(y, 1, 255, 0, 64, 0, 3);
    }

    private static void layRefused() {
        PointerSweep x = new PointerSweep();
        x.give(6, 3);
        x.give(0, 3);
        x.number(1, 8);
        for (int r : NO_REGISTERS) {
            due("lay(" + r + ", 0, 1)", x.lay(r, 0, 1), BAD);
            due("lay(0, 0, " + r + ")", x.lay(0, 0, r), BAD);
        }
        due("by a NUMBER", x.lay(1, 0, 0), TAG);
        x.narrow(2, 0, 3, 1);
        due("without that RIGHT", x.lay(2, 0, 1), RIGHT);
        for (int d : new int[] {MIN, -3, -1, 3, 250, MAX}) {
            due("lay(0, " + d + ", 1)", x.lay(0, d, 1), BOUNDS);
        }
        for (int i = 0; i < 10; i++) {
            isNumber(x, 1, i, 0);
        }
    }

    private static void blockLength() {
        PointerSweep x = new PointerSweep();
        x.give(0, 64);
        x.give(1, 64);
        for (int d : new int[] {0, 1, 62, 63}) {
            x.number(2, d + 1);
            x.lay(0, d, 2);
        }
        due("one", x.block(1, 0, 0, 0, 1), 1);
        isNumber(x, 1, 64, 1);
        isNumber(x, 1, 65, 0);
        due("the last one", x.block(1, 63, 0, 63, 1), 1);
        isNumber(x, 1, 127, 64);
        isNumber(x, 1, 126, 0);
        due("63", x.block(1, 0, 0, 1, 63), 63);
        isNumber(x, 1, 64, 2);
        isNumber(x, 1, 126, 64);
        isNumber(x, 1, 127, 64);
        due("64", x.block(1, 0, 0, 0, 64), 64);
        isNumber(x, 1, 64, 1);
        isNumber(x, 1, 65, 2);
        isNumber(x, 1, 126, 63);
        isNumber(x, 1, 127, 64);
        isNumber(x, 1, 128, 0);
        isNumber(x, 1, 0, 1);
    }

    private static void blockOverItself() {
        for (int by : new int[] {-63, -7, -1, 0, 1, 7, 63}) {
            PointerSweep x = new PointerSweep();
            x.give(0, 64);
            for (int d = 0; d < 64; d++) {
                x.number(1, d + 1);
                x.lay(0, d, 1);
            }
            int n = 64 - Math.abs(by);
            int source = Math.max(0, -by);
            int target = Math.max(0, by);
            due("block by " + by, x.block(0, target, 0, source, n), n);
            for (int d = 0; d < 64; d++) {
                boolean became = d >= target && d < target + n;
                isNumber(x, 1, d, became ? d - by + 1 : d + 1);
            }
        }
    }

    private static void blockInSweep() {
        PointerSweep x = new PointerSweep();
        x.give(0, 2);
        x.give(1, 30);
        x.give(2, 16);
        x.lay(2, 0, 0);
        x.lay(2, 1, 2);
        x.lay(2, 2, 0);
        x.back(0);
        x.sweep();
        x.step(1);
        due("block over PAGES 0 and 1", x.block(1, 13, 2, 0, 3), 3);
        isNumber(x, 1, 15, 0);
        isPointer(x, 1, 16, 32, 48, 32, 3);
        isNumber(x, 1, 17, 0);
        due("each that came as a NUMBER is counted", x.count(8), 2);
        due("what was laid is no POINTER", x.page(0, 1), 0);
        due("PAGE 1 is not SEEN", x.page(1, 1), 0);
        due("in MEMORY it stays", x.told(1, 32, 6), 1);
        x.step(1);
        due("block, the POINTER into PAGE 0", x.block(1, 12, 2, 0, 2), 2);
        due("PAGE 0 is DIRTY", x.page(0, 1), 1);
        due("PAGE 1 is SEEN, not DIRTY", x.page(1, 1), 0);
        due("block over itself", x.block(2, 1, 2, 0, 3), 3);
        due("the first one stays in MEMORY", x.told(1, 32, 6), 1);
        isNumber(x, 1, 33, 0);
        isPointer(x, 1, 34, 32, 48, 32, 3);
        isNumber(x, 1, 35, 0);
        due("count(8)", x.count(8), 5);
        due("step(16)", x.step(16), 1);
    }

    private static void blockRefused() {
        PointerSweep x = new PointerSweep();
        x.give(0, 64);
        x.give(1, 64);
        for (int r : NO_REGISTERS) {
            due("block(" + r + ", 0, 1, 0, 1)", x.block(r, 0, 1, 0, 1), BAD);
            due("block(0, 0, " + r + ", 0, 1)", x.block(0, 0, r, 0, 1), BAD);
        }
        for (int n : new int[] {MIN, -1, 0, 65, 128, MAX}) {
            due("block(0, 0, 1, 0, " + n + ")", x.block(0, 0, 1, 0, n), BAD);
        }
        due("count(13)", x.count(13), 2);
    }

    private static void blockOutside() {
        PointerSweep x = new PointerSweep();
        x.give(5, 4);
        x.give(0, 10);
        x.give(1, 20);
        due("s, all", x.block(0, 0, 1, 0, 10), 10);
        due("s, one too many", x.block(0, 0, 1, 0, 11), BOUNDS);
        due("s, one too high", x.block(0, 1, 1, 0, 10), BOUNDS);
        due("s, one too low", x.block(0, -1, 1, 0, 10), BOUNDS);
        due("s, its last CELL", x.block(0, 9, 1, 0, 1), 1);
        due("s, behind its last CELL", x.block(0, 10, 1, 0, 1), BOUNDS);
        due("t, all", x.block(1, 0, 0, 0, 10), 10);
        due("t, one too many", x.block(1, 0, 0, 0, 11), BOUNDS);
        due("t, one too high", x.block(1, 0, 0, 1, 10), BOUNDS);
        due("t, one too low", x.block(1, 0, 0, -1, 10), BOUNDS);
        due("t, its last CELL", x.block(1, 0, 0, 9, 1), 1);
        due("t, behind its last CELL", x.block(1, 0, 0, 10, 1), BOUNDS);
        for (int d : new int[] {MIN, -64, 64, MAX - 63, MAX}) {
            due("s, by " + d, x.block(0, d, 1, 0, 10), BOUNDS);
            due("t, by " + d, x.block(1, 0, 0, d, 10), BOUNDS);
        }
    }

    /** Each fault of s beside each of t: s comes first, and t is asked only when s has none. */
    private static void blockOrder() {
        PointerSweep x = new PointerSweep();
        x.give(0, 4);
        x.narrow(2, 0, 4, 1);
        x.narrow(3, 0, 4, 2);
        int[] ofS = {1, 2, 0, 0}, d = {0, 4, 4, 0};
        int[] ofT = {1, 3, 0, 0}, e = {0, 4, 4, 0};
        int[] faults = {TAG, RIGHT, BOUNDS, 1};
        for (int i = 0; i < 4; i++) {
            for (int j = 0; j < 4; j++) {
                int want = i < 3 ? faults[i] : faults[j];
                due("s " + faults[i] + ", t " + faults[j], x.block(ofS[i], d[i], ofT[j], e[j], 1), want);
            }
        }
        due("BAD n ahead of all", x.block(1, 0, 1, 0, 65), BAD);
        due("BAD t ahead of s", x.block(1, 0, 8, 0, 1), BAD);
    }

    private static void sweep() {
        PointerSweep x = allGiven();
        due("none", x.sweep(), 0);
        x.step(16);
        x.end();
        for (int r = 0; r < 4; r++) {
            x.back(r);
        }
        due("all", x.sweep(), 256);
        x.step(16);
        due("end()", x.end(), 256);
        due("none again", x.sweep(), 0);
        x.step(16);
        x.end();
        x.give(0, 1);
        x.back(0);
        due("one", x.sweep(), 1);
        due("count(3)", x.count(3), 1);
    }

    private static void sweepRefused() {
        PointerSweep x = new PointerSweep();
        x.give(0, 3);
        due("sweep()", x.sweep(), 0);
        x.back(0);
        due("no PAGE is SEEN", x.sweep(), NO);
        x.step(16);
        due("all PAGES are SEEN", x.sweep(), NO);
        due("count(3)", x.count(3), 0);
        due("page(15, 0)", x.page(15, 0), 1);
        x.end();
        due("after THE END", x.sweep(), 3);
        due("once more", x.sweep(), NO);
        x.undo();
        due("after undo()", x.sweep(), 3);
    }

    private static void stepLength() {
        PointerSweep x = new PointerSweep();
        x.sweep();
        due("step(1)", x.step(1), 0);
        due("count(9)", x.count(9), 1);
        due("page(0, 0)", x.page(0, 0), 1);
        due("page(1, 0)", x.page(1, 0), 0);
        x = new PointerSweep();
        x.sweep();
        due("step(16)", x.step(16), 0);
        due("count(9)", x.count(9), 16);
        due("page(15, 0)", x.page(15, 0), 1);
        x = new PointerSweep();
        x.sweep();
        due("step(15)", x.step(15), 0);
        due("count(9)", x.count(9), 15);
        due("page(14, 0)", x.page(14, 0), 1);
        due("page(15, 0)", x.page(15, 0), 0);
    }

    private static void stepAtMost() {
        PointerSweep x = new PointerSweep();
        x.sweep();
        x.step(15);
        due("one PAGE is left", x.step(2), 0);
        due("count(9)", x.count(9), 16);
        due("no PAGE is left", x.step(1), 0);
        due("no PAGE is left", x.step(16), 0);
        due("count(9)", x.count(9), 16);
        due("they are acts", x.count(13), 5);
        due("end()", x.end(), 0);
    }

    private static void stepAnswer() {
        PointerSweep x = new PointerSweep();
        x.give(0, 1);
        x.give(1, 47);
        for (int d = 0; d < 15; d++) {
            x.lay(1, d, 0);
        }
        x.lay(0, 0, 0);
        x.block(1, 15, 1, 0, 15);
        x.lay(1, 46, 0);
        x.lay(1, 45, 1);
        x.back(0);
        x.sweep();
        due("all 16 CELLS of PAGE 0", x.step(1), 16);
        due("15 of PAGE 1", x.step(1), 15);
        due("count(5)", x.count(5), 31);
        due("one in the rest", x.step(16), 1);
        due("none", x.step(16), 0);
        due("count(5)", x.count(5), 32);
        due("one that is not STALE stays", x.told(1, 46, 0), 1);
        x.lay(1, 0, 0);
        due("a PAGE that is SEEN is looked at no more", x.step(16), 0);
        due("told(1, 1, 6)", x.told(1, 1, 6), 1);
    }

    private static void stepRefused() {
        PointerSweep x = new PointerSweep();
        for (int n : new int[] {1, 16}) {
            due("step(" + n + ")", x.step(n), NO);
        }
        x.sweep();
        for (int n : new int[] {MIN, -1, 0, 17, MAX}) {
            due("step(" + n + ")", x.step(n), BAD);
        }
        due("count(9)", x.count(9), 0);
        x.step(16);
        x.end();
        due("after THE END", x.step(1), NO);
        due("after THE END", x.step(17), BAD);
    }

    private static void end() {
        PointerSweep x = new PointerSweep();
        due("none", wholeSweep(x), 0);
        x.give(0, 1);
        x.back(0);
        due("one", wholeSweep(x), 1);
        for (int r = 0; r < 4; r++) {
            x.give(r, 64);
            x.back(r);
        }
        due("all", wholeSweep(x), 256);
        due("count(11)", x.count(11), 3);
        x.give(0, 2);
        x.give(1, 3);
        x.back(0);
        x.sweep();
        x.step(16);
        x.back(1);
        due("only those that were DOOMED", x.end(), 2);
        due("count(2)", x.count(2), 3);
    }

    private static void endRefused() {
        PointerSweep x = new PointerSweep();
        due("no SWEEP is on", x.end(), NO);
        x.sweep();
        due("no PAGE is SEEN", x.end(), NO);
        x.step(15);
        due("one PAGE is not SEEN", x.end(), NO);
        due("count(11)", x.count(11), 0);
        due("count(12)", x.count(12), 1);
        x.step(1);
        due("all are SEEN", x.end(), 0);
        due("no SWEEP is on any more", x.end(), NO);
        x.sweep();
        due("the next one, no PAGE is SEEN", x.end(), NO);
        due("count(11)", x.count(11), 1);
    }

    private static void toldOf() {
        PointerSweep x = allGiven();
        x.narrow(7, 3, 64, 2);
        x.move(7, 63);
        isPointer(x, 0, 7, 192, 256, 255, 2);
        isPointer(x, 0, 0, 0, 64, 0, 3);
        x.lay(3, 63, 7);
        isPointer(x, 1, 255, 192, 256, 255, 2);
        x.lay(0, 0, 7);
        isPointer(x, 1, 0, 192, 256, 255, 2);
        isNumber(x, 1, 7, 0);
        x.number(6, 3);
        isNumber(x, 0, 6, 3);
        isNumber(x, 1, 6, 0);
    }

    private static void toldOfNumber() {
        PointerSweep x = new PointerSweep();
        x.give(0, 1);
        for (int v : new int[] {MIN, -1, 0, 1, MAX}) {
            x.number(1, v);
            x.lay(0, 0, 1);
            for (int what = 2; what <= 4; what++) {
                due("told(0, 1, " + what + ") of " + v, x.told(0, 1, what), 0);
                due("told(1, 0, " + what + ") of " + v, x.told(1, 0, what), 0);
            }
            due("told(0, 1, 0) of " + v, x.told(0, 1, 0), 0);
            due("told(1, 0, 0) of " + v, x.told(1, 0, 0), 0);
            due("told(0, 1, 1) of " + v, x.told(0, 1, 1), v);
            due("told(1, 0, 1) of " + v, x.told(1, 0, 1), v);
        }
    }

    private static void toldUse() {
        PointerSweep x = new PointerSweep();
        x.give(0, 2);
        x.give(1, 2);
        due("told(1, 0, 5)", x.told(1, 0, 5), 1);
        due("told(1, 3, 5)", x.told(1, 3, 5), 1);
        due("told(1, 4, 5)", x.told(1, 4, 5), 0);
        due("of a REGISTER, GIVEN OUT", x.told(0, 1, 5), 0);
        x.back(1);
        due("told(1, 1, 5)", x.told(1, 1, 5), 1);
        due("told(1, 2, 5)", x.told(1, 2, 5), 2);
        due("of a REGISTER, in QUARANTINE", x.told(0, 1, 5), 0);
        due("of a REGISTER with a NUMBER", x.told(0, 2, 5), 0);
        wholeSweep(x);
        due("told(1, 2, 5)", x.told(1, 2, 5), 0);
    }

    private static void toldStale() {
        PointerSweep x = new PointerSweep();
        x.give(0, 2);
        x.give(1, 2);
        x.lay(1, 0, 0);
        x.lay(1, 1, 1);
        x.back(0);
        due("no SWEEP, REGISTER", x.told(0, 0, 6), 0);
        due("no SWEEP, CELL", x.told(1, 2, 6), 0);
        x.sweep();
        due("REGISTER", x.told(0, 0, 6), 1);
        due("REGISTER, not STALE", x.told(0, 1, 6), 0);
        due("REGISTER, a NUMBER", x.told(0, 2, 6), 0);
        due("CELL", x.told(1, 2, 6), 1);
        due("CELL, not STALE", x.told(1, 3, 6), 0);
        due("CELL that is DOOMED but holds a NUMBER", x.told(1, 0, 6), 0);
        x.step(16);
        due("CELL that was looked at", x.told(1, 2, 6), 0);
        due("REGISTER", x.told(0, 0, 6), 1);
        x.end();
        due("REGISTER after THE END", x.told(0, 0, 6), 0);
    }

    private static void toldRefused() {
        PointerSweep x = new PointerSweep();
        for (int where : new int[] {MIN, -1, 2, MAX}) {
            due("told(" + where + ", 0, 0)", x.told(where, 0, 0), FAR_BAD);
        }
        for (int what : new int[] {MIN, -1, 7, MAX}) {
            due("told(0, 0, " + what + ")", x.told(0, 0, what), FAR_BAD);
            due("told(1, 0, " + what + ")", x.told(1, 0, what), FAR_BAD);
        }
        for (int what = 0; what <= 6; what++) {
            for (int i : NO_REGISTERS) {
                due("told(0, " + i + ", " + what + ")", x.told(0, i, what), FAR_BAD);
            }
            for (int i : new int[] {MIN, -1, 256, MAX}) {
                due("told(1, " + i + ", " + what + ")", x.told(1, i, what), FAR_BAD);
            }
            due("told(0, 7, " + what + ")", x.told(0, 7, what), 0);
            due("told(1, 8, " + what + ")", x.told(1, 8, what), 0);
            due("told(1, 255, " + what + ")", x.told(1, 255, what), 0);
        }
    }

    private static void pageSeen() {
        PointerSweep x = allGiven();
        x.sweep();
        x.step(16);
        x.lay(0, 0, 0);
        x.lay(3, 63, 0);
        for (int p = 0; p < 16; p++) {
            due("page(" + p + ", 0)", x.page(p, 0), 1);
            due("page(" + p + ", 1)", x.page(p, 1), p == 0 || p == 15 ? 1 : 0);
        }
        x.end();
        for (int p = 0; p < 16; p++) {
            due("page(" + p + ", 0), no SWEEP", x.page(p, 0), 0);
            due("page(" + p + ", 1), no SWEEP", x.page(p, 1), 0);
        }
    }

    private static void pagePointers() {
        PointerSweep x = allGiven();
        due("none", x.page(15, 2), 0);
        x.lay(3, 47, 3);
        due("CELL 239", x.page(15, 2), 0);
        due("CELL 239", x.page(14, 2), 1);
        for (int d = 48; d < 64; d++) {
            x.lay(3, d, 3);
            due("CELL " + (192 + d), x.page(15, 2), d - 47);
        }
        due("page(14, 2)", x.page(14, 2), 1);
        x.back(3);
        due("in QUARANTINE", x.page(15, 2), 16);
        x.sweep();
        due("STALE", x.page(15, 2), 16);
        x.step(15);
        due("page(14, 2)", x.page(14, 2), 0);
        due("page(15, 2)", x.page(15, 2), 16);
        x.step(1);
        due("page(15, 2)", x.page(15, 2), 0);
    }

    private static void pageCells() {
        PointerSweep x = new PointerSweep();
        x.give(0, 15);
        x.give(1, 2);
        x.give(2, 31);
        due("page(0, 3)", x.page(0, 3), 16);
        due("page(2, 3)", x.page(2, 3), 16);
        due("page(3, 3)", x.page(3, 3), 0);
        x.back(1);
        due("page(0, 3), its last CELL", x.page(0, 3), 15);
        due("page(0, 4), its last CELL", x.page(0, 4), 1);
        due("page(1, 3), its first CELL", x.page(1, 3), 15);
        due("page(1, 4), its first CELL", x.page(1, 4), 1);
        x.back(2);
        due("page(1, 4)", x.page(1, 4), 16);
        due("page(2, 4)", x.page(2, 4), 16);
        due("page(2, 3)", x.page(2, 3), 0);
        due("page(3, 4)", x.page(3, 4), 0);
        wholeSweep(x);
        due("page(0, 3)", x.page(0, 3), 15);
        due("page(0, 4)", x.page(0, 4), 0);
        due("page(1, 4)", x.page(1, 4), 0);
        PointerSweep y = allGiven();
        due("page(15, 3)", y.page(15, 3), 16);
        y.back(3);
        due("page(15, 4)", y.page(15, 4), 16);
        due("page(11, 4)", y.page(11, 4), 0);
        due("page(12, 4)", y.page(12, 4), 16);
    }

    private static void pageRefused() {
        PointerSweep x = new PointerSweep();
        for (int p : new int[] {MIN, -1, 16, MAX}) {
            for (int what = 0; what <= 4; what++) {
                due("page(" + p + ", " + what + ")", x.page(p, what), BAD);
            }
        }
        for (int what : new int[] {MIN, -1, 5, MAX}) {
            due("page(0, " + what + ")", x.page(0, what), BAD);
            due("page(15, " + what + ")", x.page(15, what), BAD);
        }
    }

    private static void range() {
        PointerSweep x = new PointerSweep();
        x.give(0, 64);
        x.give(1, 1);
        x.give(2, 64);
        x.give(3, 64);
        x.give(4, 63);
        int[][] want = {{0, 0, 64}, {63, 0, 64}, {64, 64, 1}, {65, 65, 64}, {128, 65, 64}, {129, 129, 64},
            {192, 129, 64}, {193, 193, 63}, {255, 193, 63}};
        for (int[] row : want) {
            due("range(" + row[0] + ", 0)", x.range(row[0], 0), row[1]);
            due("range(" + row[0] + ", 1)", x.range(row[0], 1), row[2]);
        }
    }

    private static void rangeNone() {
        PointerSweep x = new PointerSweep();
        due("FREE", x.range(0, 0), NONE);
        due("FREE", x.range(255, 1), NONE);
        x.give(0, 3);
        x.give(1, 3);
        due("behind its last CELL", x.range(6, 0), NONE);
        x.back(0);
        due("in QUARANTINE", x.range(0, 0), NONE);
        due("in QUARANTINE", x.range(2, 1), NONE);
        due("its neighbour", x.range(3, 0), 3);
        x.sweep();
        due("DOOMED", x.range(2, 0), NONE);
        x.step(16);
        x.end();
        due("FREE again", x.range(2, 0), NONE);
        due("its neighbour", x.range(3, 1), 3);
    }

    private static void rangeRefused() {
        PointerSweep x = new PointerSweep();
        x.give(0, 1);
        for (int i : new int[] {MIN, -1, 256, MAX}) {
            due("range(" + i + ", 0)", x.range(i, 0), BAD);
            due("range(" + i + ", 1)", x.range(i, 1), BAD);
        }
        for (int what : new int[] {MIN, -1, 2, MAX}) {
            due("range(0, " + what + ")", x.range(0, what), BAD);
            due("range(1, " + what + "), BAD ahead of NONE", x.range(1, what), BAD);
        }
    }

    private static void undo() {
        PointerSweep x = new PointerSweep();
        x.number(0, 1);
        x.give(9, 1);
        x.number(0, 2);
        x.back(0);
        due("a refused call is no act", x.undo(), 1);
        isNumber(x, 0, 0, 1);
        due("undo() is no act", x.undo(), 1);
        isNumber(x, 0, 0, 0);
        due("count(13)", x.count(13), 0);
    }

    private static void undoNone() {
        PointerSweep x = new PointerSweep();
        due("at first", x.undo(), NO);
        x.give(8, 1);
        due("after a refused call", x.undo(), NO);
        x.number(0, 5);
        due("one", x.undo(), 1);
        due("no more", x.undo(), NO);
        due("no more", x.undo(), NO);
        for (int i = 1; i <= 25; i++) {
            x.number(0, i);
        }
        for (int i = 1; i <= 24; i++) {
            due("undo() " + i, x.undo(), 1);
        }
        due("the 25th", x.undo(), NO);
        isNumber(x, 0, 0, 1);
    }

    private static void counts(PointerSweep x, int... want) {
        for (int what = 0; what < want.length; what++) {
            due("count(" + what + ")", x.count(what), want[what]);
        }
    }

    private static void countCells() {
        PointerSweep x = new PointerSweep();
        counts(x, 256, 0, 0, 0);
        x.give(0, 64);
        counts(x, 192, 64, 0, 0);
        x.give(1, 64);
        x.give(2, 64);
        x.give(3, 64);
        counts(x, 0, 256, 0, 0);
        x.back(3);
        counts(x, 0, 192, 64, 0);
        x.sweep();
        counts(x, 0, 192, 64, 64);
        x.back(0);
        x.back(1);
        x.back(2);
        counts(x, 0, 0, 256, 64);
        x.step(16);
        x.end();
        counts(x, 64, 0, 192, 0);
        x.sweep();
        counts(x, 64, 0, 192, 192);
    }

    private static void countRanges() {
        PointerSweep x = new PointerSweep();
        due("none", x.count(4), 0);
        for (int i = 1; i <= 200; i++) {
            x.give(0, 1);
            due("one CELL each", x.count(4), i);
        }
        x.back(0);
        due("GIVEN BACK", x.count(4), 199);
        x.narrow(1, 0, 1, 3);
        due("a POINTER more is no RANGE more", x.count(4), 199);
        x.undo();
        x.undo();
        due("taken back", x.count(4), 200);
        PointerSweep y = new PointerSweep();
        for (int i = 0; i < 256; i++) {
            y.give(i % 8, 1);
        }
        due("all", y.count(4), 256);
        due("give(0, 1)", y.give(0, 1), FULL);
    }

    private static void countTallies() {
        PointerSweep x = new PointerSweep();
        x.give(0, 2);
        x.give(1, 20);
        x.lay(1, 0, 0);
        x.back(0);
        x.sweep();
        counts(x, 234, 20, 2, 2, 1, 0, 0, 0, 0, 0, 0, 0, 1, 5);
        x.look(2, 1, 0);
        counts(x, 234, 20, 2, 2, 1, 0, 0, 0, 1, 0, 0, 0, 1, 6);
        x.step(16);
        counts(x, 234, 20, 2, 2, 1, 1, 0, 0, 1, 16, 0, 0, 1, 7);
        x.lay(1, 0, 0);
        x.lay(1, 1, 0);
        counts(x, 234, 20, 2, 2, 1, 1, 0, 0, 1, 16, 0, 0, 1, 9);
        x.end();
        counts(x, 236, 20, 0, 0, 1, 1, 2, 1, 1, 16, 1, 1, 0, 10);
    }

    private static void countSweep() {
        PointerSweep x = new PointerSweep();
        due("at first", x.count(12), 0);
        x.sweep();
        due("sweep()", x.count(12), 1);
        x.sweep();
        due("a refused sweep()", x.count(12), 1);
        x.step(16);
        due("all PAGES are SEEN", x.count(12), 1);
        x.end();
        due("end()", x.count(12), 0);
        x.undo();
        due("end() taken back", x.count(12), 1);
    }

    private static void countActs() {
        PointerSweep x = new PointerSweep();
        for (int i = 1; i <= 23; i++) {
            x.number(0, i);
        }
        due("23", x.count(13), 23);
        x.number(0, 24);
        due("24", x.count(13), 24);
        x.number(0, 25);
        due("25", x.count(13), 24);
        x.number(8, 26);
        due("a refused one", x.count(13), 24);
        x.undo();
        due("undo()", x.count(13), 23);
        x.number(0, 27);
        due("one more", x.count(13), 24);
    }

    private static void countRefused() {
        PointerSweep x = new PointerSweep();
        for (int what : new int[] {MIN, -1, 14, 15, MAX}) {
            due("count(" + what + ")", x.count(what), BAD);
        }
        due("count(0)", x.count(0), 256);
        due("count(13)", x.count(13), 0);
    }
}
