/** A test for each sentence of the document's head and Terms that names a boundary; main() has the sentences. */
public final class TermsTest {
    private static final int BAD = -1, NO = -2, FULL = -3, NONE = -4;
    private static final int TAG = -11, RIGHT = -12, BOUNDS = -13;
    private static final int FAR_BAD = -1000000001;
    private static final int MIN = Integer.MIN_VALUE, MAX = Integer.MAX_VALUE;

    private static int wrong = 0;
    private static String sentence = "";

    private static void test(String words, Runnable body) {
        sentence = words;
        try {
            body.run();
        } catch (RuntimeException e) {
            wrong++;
            System.out.println(sentence + ": threw " + e);
        }
    }

    private static void due(String call, int got, int want) {
        if (got != want) {
            wrong++;
            System.out.println(sentence + ": " + call + " answered " + got + ", due is " + want);
        }
    }

    public static void main(String[] args) {
        test("MEMORY has 256 CELLS", TermsTest::cells);
        test("in 16 PAGES", TermsTest::pages);
        test("PAGES of 16", TermsTest::cellsOfPages);
        test("REGISTERS are 0 to 7", TermsTest::registers);
        test("at most 512 calls", TermsTest::lastPromisedCall);
        test("a NUMBER (an int, 0 at first)", TermsTest::numbers);
        test("FROM to TO - 1 are its BOUNDS", TermsTest::bounds);
        test("BOUNDS, at least one", TermsTest::smallestBounds);
        test("AT (an int: where it points)", TermsTest::at);
        test("RIGHTS (1 to look, 2 to lay, added up)", TermsTest::rights);
        test("each CELL is FREE, GIVEN OUT, or in QUARANTINE", TermsTest::uses);
        test("of several the first: 1 TAG", TermsTest::tagFirst);
        test("of several the first: 2 RIGHT, 3 BOUNDS", TermsTest::rightAheadOfBounds);
        test("AT with what is added wraps nowhere, below", TermsTest::noWrapBelow);
        test("AT with what is added wraps nowhere, above", TermsTest::noWrapAbove);
        test("AT with what is added, far but within", TermsTest::farButWithin);
        test("the first row of n CELLS that are FREE", TermsTest::firstRow);
        test("the first row, of two that were given back", TermsTest::rowOfTwo);
        test("the first row, up to CELL 255", TermsTest::lastRow);
        test("they hold NUMBERS 0 then", TermsTest::givenCellsAreCleared);
        test("GIVEN BACK by just the BOUNDS of a RANGE", TermsTest::justTheBounds);
        test("what they hold stays", TermsTest::contentsStay);
        test("CELLS in QUARANTINE then are DOOMED, none", TermsTest::noneDoomed);
        test("CELLS in QUARANTINE then are DOOMED, all", TermsTest::allDoomed);
        test("CELLS in QUARANTINE then are DOOMED, not later ones", TermsTest::laterOnesAreNotDoomed);
        test("no PAGE is SEEN or DIRTY", TermsTest::sweepBeginsClean);
        test("STALE, if some CELL of its BOUNDS is DOOMED", TermsTest::stale);
        test("STEPS look at PAGES, 0 first", TermsTest::stepsInOrder);
        test("each STALE POINTER there becomes the NUMBER AT", TermsTest::staleBecomesAt);
        test("laid into a PAGE that is SEEN makes that DIRTY", TermsTest::dirty);
        test("a POINTER that is laid, not a NUMBER", TermsTest::numbersMakeNothingDirty);
        test("While a SWEEP is on", TermsTest::noSweepNothingDirty);
        test("looked up from MEMORY comes as the NUMBER AT", TermsTest::lookedUp);
        test("looked up, no SWEEP is on", TermsTest::lookedUpWithoutSweep);
        test("THE END, no PAGE is DIRTY", TermsTest::endWithNoneDirty);
        test("THE END, all PAGES are DIRTY", TermsTest::endWithAllDirty);
        test("THE END looks at PAGES that are DIRTY alone", TermsTest::endLooksAtDirtyAlone);
        test("and the REGISTERS", TermsTest::endLooksAtRegisters);
        test("CELLS that are DOOMED are FREE, and none is any more", TermsTest::doomedAreFree);
        test("CELLS that came into QUARANTINE since stay there", TermsTest::laterOnesStay);
        test("WHAT IS COUNTED, over two SWEEPS", TermsTest::counted);
        test("Acts that are not refused are kept", TermsTest::actsAreKept);
        test("whether they change something or not", TermsTest::actsThatChangeNothing);
        test("24 of them: the 24th", TermsTest::twentyFour);
        test("24 of them: the 25th", TermsTest::twentyFive);
        test("taken back, the latest first", TermsTest::latestFirst);
        test("with all that is counted", TermsTest::countsAreTakenBack);
        System.out.println(wrong == 0 ? "terms: all answers are as due" : wrong + " answers are not as due");
        if (wrong != 0) {
            System.exit(1);
        }
    }

    private static void number(PointerSweep x, int where, int i, int value) {
        String place = "told(" + where + ", " + i + ", ";
        due(place + "0)", x.told(where, i, 0), 0);
        due(place + "1)", x.told(where, i, 1), value);
        for (int what = 2; what <= 4; what++) {
            due(place + what + ")", x.told(where, i, what), 0);
        }
    }

    private static void pointer(PointerSweep x, int where, int i, int from, int to, int at, int rights) {
        String place = "told(" + where + ", " + i + ", ";
        int[] want = {1, at, from, to, rights};
        for (int what = 0; what < want.length; what++) {
            due(place + what + ")", x.told(where, i, what), want[what]);
        }
    }

    /** All CELLS given out, as four ranges of 64 in REGISTERS 0 to 3. */
    private static PointerSweep allGiven() {
        PointerSweep x = new PointerSweep();
        for (int r = 0; r < 4; r++) {
            due("give(" + r + ", 64)", x.give(r, 64), 64 * r);
        }
        return x;
    }

    private static void cells() {
        PointerSweep x = allGiven();
        due("count(0)", x.count(0), 0);
        due("count(1)", x.count(1), 256);
        due("told(1, -1, 5)", x.told(1, -1, 5), FAR_BAD);
        due("told(1, 0, 5)", x.told(1, 0, 5), 1);
        due("told(1, 255, 5)", x.told(1, 255, 5), 1);
        due("told(1, 256, 5)", x.told(1, 256, 5), FAR_BAD);
        due("range(-1, 0)", x.range(-1, 0), BAD);
        due("range(255, 0)", x.range(255, 0), 192);
        due("range(256, 0)", x.range(256, 0), BAD);
        x.number(7, 5);
        due("lay(0, 0, 7)", x.lay(0, 0, 7), 0);
        due("lay(3, 63, 7)", x.lay(3, 63, 7), 255);
        number(x, 1, 0, 5);
        number(x, 1, 255, 5);
        number(x, 1, 254, 0);
    }

    private static void pages() {
        PointerSweep x = new PointerSweep();
        for (int what = 0; what <= 4; what++) {
            due("page(-1, " + what + ")", x.page(-1, what), BAD);
            due("page(0, " + what + ")", x.page(0, what), 0);
            due("page(15, " + what + ")", x.page(15, what), 0);
            due("page(16, " + what + ")", x.page(16, what), BAD);
        }
        x.sweep();
        x.step(15);
        due("page(14, 0)", x.page(14, 0), 1);
        due("page(15, 0)", x.page(15, 0), 0);
        due("end()", x.end(), NO);
        x.step(1);
        due("page(15, 0)", x.page(15, 0), 1);
        due("end()", x.end(), 0);
    }

    private static void cellsOfPages() {
        PointerSweep x = allGiven();
        for (int p = 0; p < 16; p++) {
            int d = p * 16 % 64;
            x.lay(p / 4, d, 0);
            x.lay(p / 4, d + 15, 0);
            due("page(" + p + ", 2)", x.page(p, 2), 2);
            due("page(" + p + ", 3)", x.page(p, 3), 16);
        }
        for (int p = 0; p < 16; p++) {
            due("page(" + p + ", 2) at last", x.page(p, 2), 2);
        }
        x.number(7, 0);
        x.lay(0, 15, 7);
        due("page(0, 2) without CELL 15", x.page(0, 2), 1);
        due("page(1, 2) without CELL 15", x.page(1, 2), 2);
        x.lay(3, 48, 7);
        due("page(14, 2) without CELL 240", x.page(14, 2), 2);
        due("page(15, 2) without CELL 240", x.page(15, 2), 1);
    }

    private static void registers() {
        for (int r : new int[] {0, 7}) {
            PointerSweep x = new PointerSweep();
            due("give", x.give(r, 3), 0);
            due("move", x.move(r, 1), 1);
            due("move", x.move(r, -1), 0);
            due("copy from it", x.copy(3, r), 0);
            due("lay by it", x.lay(r, 1, 3), 1);
            due("lay of it", x.lay(3, 2, r), 2);
            due("look by it", x.look(4, r, 1), 1);
            due("block to it", x.block(r, 0, 3, 1, 1), 1);
            due("block from it", x.block(3, 1, r, 0, 1), 1);
            due("narrow of it", x.narrow(5, r, 1, 3), 0);
            due("narrow into it", x.narrow(r, 3, 2, 3), 0);
            pointer(x, 0, r, 0, 2, 0, 3);
            due("look into it", x.look(r, 3, 0), 1);
            due("back", x.back(r), 3);
            due("number", x.number(r, 9), 0);
            number(x, 0, r, 9);
            due("copy into it", x.copy(r, 3), 0);
            pointer(x, 0, r, 0, 3, 0, 3);
        }
        PointerSweep x = new PointerSweep();
        for (int r = 0; r < 8; r++) {
            x.number(r, r + 100);
        }
        for (int r = 0; r < 8; r++) {
            number(x, 0, r, r + 100);
        }
    }

    private static void lastPromisedCall() {
        PointerSweep x = new PointerSweep();
        for (int i = 1; i <= 511; i++) {
            x.number(0, i);
        }
        due("the 512th call", x.told(0, 0, 1), 511);
        for (int i = 0; i < 100; i++) { // their answers are free, but no call may throw
            x.give(i % 8, 64);
            x.undo();
            x.sweep();
            x.step(16);
            x.end();
        }
        x = new PointerSweep();
        for (int i = 1; i <= 511; i++) {
            x.give(i % 8, i % 64 + 1);
        }
        due("the 512th call", x.undo(), 1);
    }

    private static void numbers() {
        PointerSweep x = new PointerSweep();
        number(x, 0, 0, 0);
        number(x, 0, 7, 0);
        number(x, 1, 0, 0);
        number(x, 1, 255, 0);
        x.give(1, 1);
        for (int v : new int[] {MIN, MIN + 1, -1, 0, 1, 256, MAX - 1, MAX, FAR_BAD}) {
            due("number(0, " + v + ")", x.number(0, v), 0);
            number(x, 0, 0, v);
            due("lay(1, 0, 0)", x.lay(1, 0, 0), 0);
            number(x, 1, 0, v);
            due("look(2, 1, 0)", x.look(2, 1, 0), 0);
            number(x, 0, 2, v);
        }
    }

    private static void bounds() {
        PointerSweep x = new PointerSweep();
        x.give(7, 10);
        x.give(0, 5);
        pointer(x, 0, 0, 10, 15, 10, 3);
        due("look, FROM - 1", x.look(1, 0, -1), BOUNDS);
        due("look, FROM", x.look(1, 0, 0), 0);
        due("look, TO - 1", x.look(1, 0, 4), 0);
        due("look, TO", x.look(1, 0, 5), BOUNDS);
        due("lay, FROM - 1", x.lay(0, -1, 1), BOUNDS);
        due("lay, FROM", x.lay(0, 0, 1), 10);
        due("lay, TO - 1", x.lay(0, 4, 1), 14);
        due("lay, TO", x.lay(0, 5, 1), BOUNDS);
        x.move(0, 100);
        due("AT alone is not within", x.look(1, 0, 0), BOUNDS);
        due("look, FROM - 1 from afar", x.look(1, 0, -101), BOUNDS);
        due("look, FROM from afar", x.look(1, 0, -100), 0);
        due("look, TO - 1 from afar", x.look(1, 0, -96), 0);
        due("look, TO from afar", x.look(1, 0, -95), BOUNDS);
    }

    private static void smallestBounds() {
        PointerSweep x = new PointerSweep();
        due("give(0, 0)", x.give(0, 0), BAD);
        due("give(0, 1)", x.give(0, 1), 0);
        pointer(x, 0, 0, 0, 1, 0, 3);
        due("give(1, 6)", x.give(1, 6), 1);
        x.move(1, 5);
        due("narrow(2, 1, 0, 3)", x.narrow(2, 1, 0, 3), BAD);
        due("narrow(2, 1, 1, 3)", x.narrow(2, 1, 1, 3), 6);
        pointer(x, 0, 2, 6, 7, 6, 3);
        due("look below", x.look(3, 2, -1), BOUNDS);
        due("look", x.look(3, 2, 0), 0);
        due("look above", x.look(3, 2, 1), BOUNDS);
    }

    private static void at() {
        PointerSweep x = new PointerSweep();
        x.give(0, 2);
        x.give(1, 2);
        for (int v : new int[] {MIN, -1, 1, 2, 256, MAX}) {
            x.copy(2, 0);
            due("move(2, " + v + ")", x.move(2, v), v);
            pointer(x, 0, 2, 0, 2, v, 3);
            due("lay(1, 1, 2)", x.lay(1, 1, 2), 3);
            pointer(x, 1, 3, 0, 2, v, 3);
            due("look(4, 1, 1)", x.look(4, 1, 1), 1);
            pointer(x, 0, 4, 0, 2, v, 3);
        }
    }

    private static void rights() {
        PointerSweep x = new PointerSweep();
        x.give(0, 2);
        for (int k = 0; k <= 3; k++) {
            due("narrow(1, 0, 2, " + k + ")", x.narrow(1, 0, 2, k), 0);
            pointer(x, 0, 1, 0, 2, 0, k);
            due("look with RIGHTS " + k, x.look(2, 1, 1), (k & 1) != 0 ? 0 : RIGHT);
            due("lay with RIGHTS " + k, x.lay(1, 1, 7), (k & 2) != 0 ? 1 : RIGHT);
            due("block to RIGHTS " + k, x.block(1, 0, 0, 0, 1), (k & 2) != 0 ? 1 : RIGHT);
            due("block from RIGHTS " + k, x.block(0, 0, 1, 0, 1), (k & 1) != 0 ? 1 : RIGHT);
            for (int more = 0; more <= 3; more++) {
                x.narrow(3, 1, 1, more);
                pointer(x, 0, 3, 0, 1, 0, k & more);
            }
        }
    }

    private static void uses() {
        PointerSweep x = new PointerSweep();
        due("FREE at first", x.told(1, 3, 5), 0);
        x.give(0, 3);
        x.give(1, 2);
        int[] given = {1, 1, 1, 1, 1, 0};
        for (int i = 0; i < given.length; i++) {
            due("told(1, " + i + ", 5)", x.told(1, i, 5), given[i]);
        }
        x.back(0);
        int[] back = {2, 2, 2, 1, 1, 0};
        for (int i = 0; i < back.length; i++) {
            due("told(1, " + i + ", 5) after back", x.told(1, i, 5), back[i]);
        }
        due("count(0)", x.count(0), 251);
        due("count(1)", x.count(1), 2);
        due("count(2)", x.count(2), 3);
        x.sweep();
        x.step(16);
        due("DOOMED is in QUARANTINE still", x.told(1, 2, 5), 2);
        due("give(2, 3)", x.give(2, 3), 5);
        x.end();
        int[] after = {0, 0, 0, 1, 1, 1, 1, 1, 0};
        for (int i = 0; i < after.length; i++) {
            due("told(1, " + i + ", 5) after THE END", x.told(1, i, 5), after[i]);
        }
    }

    private static void tagFirst() {
        PointerSweep x = new PointerSweep();
        x.give(0, 4);
        x.number(1, 2);
        due("a NUMBER within the BOUNDS of no one", x.look(2, 1, 0), TAG);
        due("look far off", x.look(2, 1, MAX), TAG);
        due("lay", x.lay(1, 0, 0), TAG);
        due("lay far off", x.lay(1, MIN, 0), TAG);
        due("narrow of too many", x.narrow(2, 1, MAX, 0), TAG);
        due("block to it", x.block(1, MAX, 0, 0, 64), TAG);
        due("block from it", x.block(0, 0, 1, MAX, 4), TAG);
        due("back", x.back(1), TAG);
        due("move", x.move(1, 0), -1000000011);
    }

    private static void rightAheadOfBounds() {
        PointerSweep x = new PointerSweep();
        x.give(0, 4);
        x.narrow(1, 0, 4, 2);
        x.narrow(2, 0, 4, 1);
        due("look within", x.look(7, 1, 0), RIGHT);
        due("look, one above", x.look(7, 1, 4), RIGHT);
        due("look, one below", x.look(7, 1, -1), RIGHT);
        due("lay within", x.lay(2, 0, 7), RIGHT);
        due("lay, one above", x.lay(2, 4, 7), RIGHT);
        due("lay, one below", x.lay(2, -1, 7), RIGHT);
        due("block to it", x.block(2, 4, 0, 0, 1), RIGHT);
        due("block from it", x.block(0, 0, 1, 4, 1), RIGHT);
        due("look with the RIGHT, one above", x.look(7, 2, 4), BOUNDS);
        due("lay with the RIGHT, one above", x.lay(1, 4, 7), BOUNDS);
    }

    private static void noWrapBelow() {
        PointerSweep x = new PointerSweep();
        x.give(0, 8);
        x.copy(1, 0);
        for (int c = 0; c < 8; c += 7) { // an int's sum with MIN would be CELL c
            x.copy(2, 0);
            due("move", x.move(2, MIN + c), MIN + c);
            due("look, CELL " + c, x.look(3, 2, MIN), BOUNDS);
            due("lay, CELL " + c, x.lay(2, MIN, 3), BOUNDS);
            due("block to CELL " + c, x.block(2, MIN, 0, 0, 1), BOUNDS);
            due("block from CELL " + c, x.block(0, 0, 2, MIN, 1), BOUNDS);
        }
        x.copy(2, 0);
        x.move(2, MIN);
        due("narrow, AT MIN", x.narrow(3, 2, MAX, 3), BOUNDS);
        due("narrow, AT MIN", x.narrow(3, 2, 1, 3), BOUNDS);
        due("look, MIN alone", x.look(3, 0, MIN), BOUNDS);
        due("block to MIN with 64", x.block(2, 0, 0, 0, 64), BOUNDS);
    }

    private static void noWrapAbove() {
        PointerSweep x = new PointerSweep();
        x.give(7, 5);
        x.give(0, 64);
        due("block to MAX - 10 and 64 more", x.block(0, MAX - 10, 0, 0, 64), BOUNDS);
        due("block from MAX - 10 and 64 more", x.block(0, 0, 0, MAX - 10, 64), BOUNDS);
        due("block to MAX and one", x.block(0, MAX, 0, 0, 1), BOUNDS);
        due("narrow, MAX CELLS", x.narrow(1, 0, MAX, 3), BOUNDS);
        due("narrow, up to an int's end", x.narrow(1, 0, MAX - 5, 3), BOUNDS);
        due("narrow, one beyond an int's end", x.narrow(1, 0, MAX - 4, 3), BOUNDS);
        due("move", x.move(0, MAX - 5), MAX);
        due("narrow, AT MAX, one CELL", x.narrow(1, 0, 1, 3), BOUNDS);
        due("narrow, AT MAX, MAX CELLS", x.narrow(1, 0, MAX, 3), BOUNDS);
        due("look, MAX and MAX", x.look(1, 0, MAX), BOUNDS);
        due("lay, MAX and MAX", x.lay(0, MAX, 1), BOUNDS);
        due("lay, MAX and one", x.lay(0, 1, 1), BOUNDS);
        due("block, MAX and none", x.block(0, 0, 7, 0, 1), BOUNDS);
    }

    private static void farButWithin() {
        PointerSweep x = new PointerSweep();
        x.give(7, 3);
        x.give(0, 4);
        x.copy(1, 0);
        due("move", x.move(1, MAX - 3), MAX);
        due("lay, FROM - 1", x.lay(1, MIN + 3, 7), BOUNDS);
        due("lay, FROM", x.lay(1, MIN + 4, 7), 3);
        due("lay, TO - 1", x.lay(1, MIN + 7, 7), 6);
        due("lay, TO", x.lay(1, MIN + 8, 7), BOUNDS);
        due("look, FROM", x.look(2, 1, MIN + 4), 1);
        due("block, all", x.block(0, 0, 1, MIN + 4, 4), 4);
        due("block, one less below", x.block(0, 0, 1, MIN + 3, 4), BOUNDS);
        due("block, one more above", x.block(0, 0, 1, MIN + 5, 4), BOUNDS);
        due("move", x.move(1, 1), MIN);
        due("MIN and MAX are -1", x.lay(1, MAX, 7), BOUNDS);
    }

    private static void firstRow() {
        PointerSweep x = new PointerSweep();
        for (int r = 0; r < 7; r++) {
            due("give", x.give(r, 4), 4 * r);
        }
        x.back(1);
        x.back(4);
        x.sweep();
        x.step(16);
        due("end()", x.end(), 8);
        due("a row that is one too short is passed by", x.give(7, 5), 28);
        due("a row that is just long enough", x.give(7, 4), 4);
        due("the next one, in part", x.give(7, 3), 16);
        due("what is left of it is too short", x.give(7, 2), 33);
        due("what is left of it", x.give(7, 1), 19);
        due("beyond all", x.give(7, 1), 35);
    }

    private static void rowOfTwo() {
        PointerSweep x = new PointerSweep();
        for (int r = 0; r < 4; r++) {
            x.give(r, 4);
        }
        x.back(2);
        x.back(1);
        x.sweep();
        x.step(16);
        x.end();
        due("give(5, 9)", x.give(5, 9), 16);
        due("give(6, 8)", x.give(6, 8), 4);
        due("range(11, 0)", x.range(11, 0), 4);
        due("range(11, 1)", x.range(11, 1), 8);
        due("range(12, 1)", x.range(12, 1), 4);
        due("back(6)", x.back(6), 8);
    }

    private static void lastRow() {
        PointerSweep x = new PointerSweep();
        for (int r = 0; r < 3; r++) {
            x.give(r, 64);
        }
        due("give(3, 2)", x.give(3, 2), 192);
        due("one CELL too many", x.give(4, 63), FULL);
        due("up to CELL 255", x.give(4, 62), 194);
        pointer(x, 0, 4, 194, 256, 194, 3);
        due("told(1, 255, 5)", x.told(1, 255, 5), 1);
        due("lay(4, 61, 4)", x.lay(4, 61, 4), 255);
        due("lay(4, 62, 4)", x.lay(4, 62, 4), BOUNDS);
        due("range(255, 0)", x.range(255, 0), 194);
        due("range(255, 1)", x.range(255, 1), 62);
        due("back(4)", x.back(4), 62);
    }

    private static void givenCellsAreCleared() {
        PointerSweep x = new PointerSweep();
        x.give(0, 4);
        x.give(1, 4);
        x.number(2, 9);
        for (int d = 0; d < 4; d++) {
            x.lay(1, d, d % 2 == 0 ? 0 : 2);
        }
        x.back(1);
        x.sweep();
        x.step(16);
        x.end();
        due("a FREE CELL holds what it held", x.told(1, 4, 0), 1);
        due("give(3, 3)", x.give(3, 3), 4);
        number(x, 1, 4, 0);
        number(x, 1, 5, 0);
        number(x, 1, 6, 0);
        number(x, 1, 7, 9);
        due("give(3, 1)", x.give(3, 1), 7);
        number(x, 1, 7, 0);
    }

    private static void justTheBounds() {
        PointerSweep x = new PointerSweep();
        x.give(0, 5);
        x.give(1, 5);
        x.narrow(2, 1, 4, 3);
        due("one less at its end", x.back(2), NO);
        x.copy(3, 1);
        x.move(3, 1);
        x.narrow(3, 3, 4, 3);
        due("one less at its beginning", x.back(3), NO);
        x.narrow(4, 1, 1, 3);
        due("its first CELL alone", x.back(4), NO);
        due("count(2)", x.count(2), 0);
        x.narrow(5, 1, 5, 0);
        x.move(5, MAX);
        due("just its BOUNDS, whatever AT and RIGHTS", x.back(5), 5);
        due("again", x.back(1), NO);
        due("count(2)", x.count(2), 5);
        due("told(1, 4, 5)", x.told(1, 4, 5), 1);
        due("told(1, 5, 5)", x.told(1, 5, 5), 2);
        due("told(1, 9, 5)", x.told(1, 9, 5), 2);
        due("told(1, 10, 5)", x.told(1, 10, 5), 0);
    }

    private static void contentsStay() {
        PointerSweep x = new PointerSweep();
        x.give(0, 3);
        x.number(1, MIN);
        x.lay(0, 0, 1);
        x.lay(0, 2, 0);
        due("back(0)", x.back(0), 3);
        number(x, 1, 0, MIN);
        number(x, 1, 1, 0);
        pointer(x, 1, 2, 0, 3, 0, 3);
        pointer(x, 0, 0, 0, 3, 0, 3);
        due("page(0, 2)", x.page(0, 2), 1);
        due("look into QUARANTINE", x.look(4, 0, 2), 1);
        due("lay into QUARANTINE", x.lay(0, 1, 0), 1);
        pointer(x, 1, 1, 0, 3, 0, 3);
    }

    private static void noneDoomed() {
        PointerSweep x = new PointerSweep();
        x.give(0, 3);
        x.lay(0, 0, 0);
        due("sweep()", x.sweep(), 0);
        due("count(3)", x.count(3), 0);
        due("told(0, 0, 6)", x.told(0, 0, 6), 0);
        due("told(1, 0, 6)", x.told(1, 0, 6), 0);
        due("step(16)", x.step(16), 0);
        due("end()", x.end(), 0);
        pointer(x, 0, 0, 0, 3, 0, 3);
        pointer(x, 1, 0, 0, 3, 0, 3);
    }

    private static void allDoomed() {
        PointerSweep x = allGiven();
        x.lay(0, 0, 3);
        x.lay(3, 63, 0);
        for (int r = 0; r < 4; r++) {
            due("back(" + r + ")", x.back(r), 64);
        }
        due("sweep()", x.sweep(), 256);
        due("count(3)", x.count(3), 256);
        due("count(2)", x.count(2), 256);
        due("step(16)", x.step(16), 2);
        number(x, 1, 0, 192);
        number(x, 1, 255, 0);
        due("end()", x.end(), 256);
        due("count(0)", x.count(0), 256);
        due("count(7)", x.count(7), 4);
    }

    private static void laterOnesAreNotDoomed() {
        PointerSweep x = new PointerSweep();
        x.give(0, 3);
        x.give(1, 4);
        x.back(0);
        due("sweep()", x.sweep(), 3);
        due("back(1)", x.back(1), 4);
        due("count(2)", x.count(2), 7);
        due("count(3)", x.count(3), 3);
        due("told(0, 0, 6)", x.told(0, 0, 6), 1);
        due("told(0, 1, 6)", x.told(0, 1, 6), 0);
    }

    private static void sweepBeginsClean() {
        PointerSweep x = new PointerSweep();
        x.give(0, 40);
        x.sweep();
        x.step(16);
        x.lay(0, 0, 0);
        x.lay(0, 39, 0);
        due("page(0, 1)", x.page(0, 1), 1);
        due("page(2, 1)", x.page(2, 1), 1);
        x.end();
        due("sweep()", x.sweep(), 0);
        for (int p = 0; p < 16; p++) {
            due("page(" + p + ", 0)", x.page(p, 0), 0);
            due("page(" + p + ", 1)", x.page(p, 1), 0);
        }
        due("end()", x.end(), NO);
        x.step(16);
        x.end();
        due("count(10)", x.count(10), 2);
    }

    private static void stale() {
        PointerSweep x = new PointerSweep();
        x.give(0, 3);
        x.give(1, 3);
        x.give(2, 3);
        x.copy(3, 1);
        x.move(3, 2);
        x.narrow(3, 3, 1, 0);
        x.narrow(4, 1, 1, 0);
        x.copy(5, 1);
        x.move(5, 3);
        x.copy(6, 0);
        x.move(6, 4);
        x.move(2, -1);
        x.number(7, 4);
        due("back(1)", x.back(1), 3);
        due("none, as no SWEEP is on", x.told(0, 1, 6), 0);
        x.sweep();
        due("its neighbour below", x.told(0, 0, 6), 0);
        due("the RANGE", x.told(0, 1, 6), 1);
        due("its neighbour above, though AT is there", x.told(0, 2, 6), 0);
        due("its last CELL alone", x.told(0, 3, 6), 1);
        due("its first CELL alone", x.told(0, 4, 6), 1);
        due("AT is elsewhere", x.told(0, 5, 6), 1);
        due("only AT is there", x.told(0, 6, 6), 0);
        due("a NUMBER", x.told(0, 7, 6), 0);
    }

    private static void stepsInOrder() {
        PointerSweep x = new PointerSweep();
        x.give(0, 1);
        x.give(1, 63);
        x.lay(1, 14, 0);
        x.lay(1, 15, 0);
        x.back(0);
        x.sweep();
        due("step(1)", x.step(1), 1);
        number(x, 1, 15, 0);
        due("told(1, 16, 6)", x.told(1, 16, 6), 1);
        due("page(0, 0)", x.page(0, 0), 1);
        due("page(1, 0)", x.page(1, 0), 0);
        due("step(1)", x.step(1), 1);
        number(x, 1, 16, 0);
        due("page(1, 0)", x.page(1, 0), 1);
        due("page(2, 0)", x.page(2, 0), 0);
        due("step(13)", x.step(13), 0);
        due("page(14, 0)", x.page(14, 0), 1);
        due("page(15, 0)", x.page(15, 0), 0);
    }

    private static void staleBecomesAt() {
        PointerSweep x = new PointerSweep();
        int[] ats = {MIN, -1, 0, 1, 2, MAX};
        x.give(0, 2);
        x.give(1, 20);
        for (int i = 0; i < ats.length; i++) {
            x.copy(2, 0);
            x.move(2, ats[i]);
            x.lay(1, i, 2);
        }
        x.lay(1, 19, 1);
        x.number(2, MIN);
        x.lay(1, 18, 2);
        x.back(0);
        x.sweep();
        due("step(2)", x.step(2), ats.length);
        for (int i = 0; i < ats.length; i++) {
            number(x, 1, 2 + i, ats[i]);
        }
        number(x, 1, 20, MIN);
        pointer(x, 1, 21, 2, 22, 2, 3);
    }

    private static void dirty() {
        PointerSweep x = allGiven();
        x.sweep();
        x.step(4);
        x.lay(1, 0, 0);
        due("CELL 64, of a PAGE not SEEN", x.page(4, 1), 0);
        x.lay(0, 63, 0);
        due("CELL 63, of the last one SEEN", x.page(3, 1), 1);
        due("its neighbour", x.page(2, 1), 0);
        due("its neighbour", x.page(4, 1), 0);
        x.lay(0, 0, 1);
        due("CELL 0", x.page(0, 1), 1);
        due("block, a POINTER and a NUMBER, over two PAGES", x.block(0, 31, 1, 0, 2), 2);
        due("CELL 31", x.page(1, 1), 1);
        due("CELL 32", x.page(2, 1), 0);
        x.step(1);
        due("SEEN since, not DIRTY", x.page(4, 1), 0);
        x.lay(1, 15, 0);
        due("CELL 79", x.page(4, 1), 1);
        x.step(16);
        x.lay(3, 63, 0);
        due("CELL 255", x.page(15, 1), 1);
        due("page(14, 1)", x.page(14, 1), 0);
        x.end();
        due("count(10)", x.count(10), 5);
    }

    private static void numbersMakeNothingDirty() {
        PointerSweep x = new PointerSweep();
        x.give(0, 20);
        x.give(2, 4);
        x.lay(0, 16, 2);
        x.back(2);
        x.number(1, 3);
        x.sweep();
        x.step(1);
        x.lay(0, 0, 1);
        due("a NUMBER", x.page(0, 1), 0);
        x.block(0, 0, 0, 10, 5);
        due("NUMBERS", x.page(0, 1), 0);
        x.block(0, 1, 0, 16, 1);
        number(x, 1, 1, 20);
        due("a STALE POINTER that was looked up", x.page(0, 1), 0);
        x.lay(0, 2, 2);
        due("a STALE POINTER of a REGISTER", x.page(0, 1), 1);
        x.lay(0, 2, 1);
        due("it stays DIRTY", x.page(0, 1), 1);
        x.step(15);
        x.give(3, 1);
        due("CELLS that are GIVEN OUT", x.page(1, 1), 0);
        x.end();
        due("count(6)", x.count(6), 0);
        due("count(10)", x.count(10), 1);
    }

    private static void noSweepNothingDirty() {
        PointerSweep x = new PointerSweep();
        x.give(0, 20);
        x.lay(0, 0, 0);
        due("page(0, 1)", x.page(0, 1), 0);
        x.sweep();
        due("page(0, 1)", x.page(0, 1), 0);
        x.lay(0, 1, 0);
        due("page(0, 1), no PAGE is SEEN", x.page(0, 1), 0);
        x.step(16);
        due("page(0, 1)", x.page(0, 1), 0);
        x.end();
        x.lay(0, 2, 0);
        due("page(0, 1) after THE END", x.page(0, 1), 0);
        x.sweep();
        x.step(16);
        x.end();
        due("count(10)", x.count(10), 0);
    }

    private static void lookedUp() {
        PointerSweep x = new PointerSweep();
        x.give(0, 2);
        x.give(1, 20);
        x.copy(2, 0);
        x.move(2, MIN);
        x.lay(1, 19, 2);
        x.lay(1, 18, 1);
        x.back(0);
        x.sweep();
        due("a STALE one", x.look(3, 1, 19), 0);
        number(x, 0, 3, MIN);
        pointer(x, 1, 21, 0, 2, MIN, 3);
        due("told(1, 21, 6)", x.told(1, 21, 6), 1);
        due("one that is not STALE", x.look(3, 1, 18), 1);
        pointer(x, 0, 3, 2, 22, 2, 3);
        due("count(8)", x.count(8), 1);
        x.step(16);
        x.lay(1, 0, 2);
        due("from a PAGE that is SEEN and DIRTY", x.look(3, 1, 0), 0);
        number(x, 0, 3, MIN);
        pointer(x, 1, 2, 0, 2, MIN, 3);
        due("a REGISTER is not MEMORY", x.copy(4, 2), 0);
        pointer(x, 0, 4, 0, 2, MIN, 3);
        due("count(8)", x.count(8), 2);
    }

    private static void lookedUpWithoutSweep() {
        PointerSweep x = new PointerSweep();
        x.give(0, 2);
        x.give(1, 2);
        x.lay(1, 0, 0);
        x.back(0);
        due("ahead of a SWEEP", x.look(2, 1, 0), 1);
        pointer(x, 0, 2, 0, 2, 0, 3);
        due("block ahead of a SWEEP", x.block(1, 1, 1, 0, 1), 1);
        pointer(x, 1, 3, 0, 2, 0, 3);
        due("count(8)", x.count(8), 0);
    }

    private static void endWithNoneDirty() {
        PointerSweep x = new PointerSweep();
        x.give(0, 2);
        x.back(0);
        x.number(0, 0);
        x.sweep();
        x.step(16);
        due("end()", x.end(), 2);
        due("count(6)", x.count(6), 0);
        due("count(7)", x.count(7), 0);
        due("count(10)", x.count(10), 0);
        due("count(11)", x.count(11), 1);
    }

    private static void endWithAllDirty() {
        PointerSweep x = allGiven();
        x.copy(4, 3);
        x.copy(5, 0);
        x.back(0);
        x.sweep();
        x.step(16);
        for (int p = 0; p < 16; p++) {
            x.lay(p / 4, p * 16 % 64, 5);
            x.lay(p / 4, p * 16 % 64 + 15, 5);
            x.lay(p / 4, p * 16 % 64 + 7, 4);
        }
        due("end()", x.end(), 64);
        due("count(6)", x.count(6), 32);
        due("count(10)", x.count(10), 16);
        for (int p = 0; p < 16; p++) {
            number(x, 1, p * 16, 0);
            number(x, 1, p * 16 + 15, 0);
            due("told(1, " + (p * 16 + 7) + ", 0)", x.told(1, p * 16 + 7, 0), 1);
        }
    }

    private static void endLooksAtDirtyAlone() {
        PointerSweep x = new PointerSweep();
        x.give(0, 2);
        x.give(1, 40);
        x.copy(2, 0);
        x.back(0);
        x.sweep();
        x.step(3);
        x.lay(1, 29, 2);
        due("CELL 31", x.page(1, 1), 1);
        x.step(16);
        due("end()", x.end(), 2);
        number(x, 1, 31, 0);
        due("count(6)", x.count(6), 1);
        due("count(10), PAGES that are not DIRTY are not counted", x.count(10), 1);
    }

    private static void endLooksAtRegisters() {
        PointerSweep x = new PointerSweep();
        x.give(0, 5);
        x.give(7, 5);
        for (int r = 1; r < 7; r++) {
            x.copy(r, 0);
            x.move(r, r == 1 ? MIN : r == 2 ? MAX : r);
        }
        x.back(0);
        x.sweep();
        x.step(16);
        due("told(0, 0, 6)", x.told(0, 0, 6), 1);
        due("end()", x.end(), 5);
        due("count(7)", x.count(7), 7);
        int[] left = {0, MIN, MAX, 3, 4, 5, 6};
        for (int r = 0; r < left.length; r++) {
            number(x, 0, r, left[r]);
        }
        pointer(x, 0, 7, 5, 10, 5, 3);
        x.copy(0, 7);
        x.back(7);
        x.sweep();
        x.step(16);
        x.end();
        number(x, 0, 7, 5);
        due("count(7)", x.count(7), 9);
    }

    private static void doomedAreFree() {
        PointerSweep x = new PointerSweep();
        x.give(0, 4);
        x.give(1, 4);
        x.back(0);
        x.sweep();
        x.step(16);
        due("ahead of THE END", x.give(2, 1), 8);
        due("end()", x.end(), 4);
        due("count(3)", x.count(3), 0);
        due("count(2)", x.count(2), 0);
        due("told(1, 0, 5)", x.told(1, 0, 5), 0);
        due("told(1, 3, 5)", x.told(1, 3, 5), 0);
        due("told(1, 4, 5)", x.told(1, 4, 5), 1);
        due("range(0, 0)", x.range(0, 0), NONE);
        due("give(2, 4)", x.give(2, 4), 0);
        due("a new POINTER there is not STALE", x.told(0, 2, 6), 0);
        due("sweep()", x.sweep(), 0);
        due("told(0, 2, 6)", x.told(0, 2, 6), 0);
    }

    private static void laterOnesStay() {
        PointerSweep x = new PointerSweep();
        x.give(0, 4);
        x.give(1, 4);
        x.back(0);
        x.sweep();
        x.step(16);
        due("back(1), all PAGES are SEEN", x.back(1), 4);
        due("end()", x.end(), 4);
        due("told(1, 3, 5)", x.told(1, 3, 5), 0);
        due("told(1, 4, 5)", x.told(1, 4, 5), 2);
        due("told(1, 7, 5)", x.told(1, 7, 5), 2);
        due("count(2)", x.count(2), 4);
        pointer(x, 0, 1, 4, 8, 4, 3);
        due("give(2, 5)", x.give(2, 5), 8);
        due("sweep()", x.sweep(), 4);
        x.step(16);
        due("end()", x.end(), 4);
        number(x, 0, 1, 4);
    }

    private static void counted() {
        PointerSweep x = new PointerSweep();
        x.give(7, 40);
        for (int round = 1; round <= 2; round++) {
            x.give(0, 2);
            x.lay(7, 0, 0);
            x.lay(7, 1, 0);
            x.lay(7, 39, 0);
            x.back(0);
            x.sweep();
            x.look(6, 7, 0);
            x.block(7, 10, 7, 0, 2);
            x.step(1);
            x.lay(7, 2, 0);
            x.lay(7, 20, 7);
            x.step(15);
            x.lay(7, 38, 7);
            x.end();
            int[] tallies = {3, 1, 1, 3, 16, 2, 1};
            for (int i = 0; i < tallies.length; i++) {
                due("count(" + (5 + i) + "), SWEEP " + round, x.count(5 + i), tallies[i] * round);
            }
        }
    }

    private static void actsAreKept() {
        PointerSweep x = new PointerSweep();
        int acts = 0;
        x.give(0, 3);
        due("give", x.count(13), ++acts);
        x.number(1, 3);
        due("number", x.count(13), ++acts);
        x.copy(2, 0);
        due("copy", x.count(13), ++acts);
        x.move(2, 1);
        due("move", x.count(13), ++acts);
        x.narrow(3, 0, 1, 3);
        due("narrow", x.count(13), ++acts);
        x.lay(0, 0, 0);
        due("lay", x.count(13), ++acts);
        x.look(4, 0, 0);
        due("look", x.count(13), ++acts);
        x.block(0, 1, 0, 0, 2);
        due("block", x.count(13), ++acts);
        x.back(0);
        due("back", x.count(13), ++acts);
        x.sweep();
        due("sweep", x.count(13), ++acts);
        x.step(16);
        due("step", x.count(13), ++acts);
        x.end();
        due("end", x.count(13), ++acts);
        x.told(0, 0, 0);
        x.page(0, 0);
        x.range(0, 0);
        x.count(0);
        due("what only asks", x.count(13), acts);
        x.undo();
        due("undo", x.count(13), --acts);
    }

    private static void actsThatChangeNothing() {
        PointerSweep x = new PointerSweep();
        x.number(0, 0);
        x.copy(1, 1);
        due("count(13)", x.count(13), 2);
        x.give(0, 2);
        x.move(0, 0);
        x.narrow(0, 0, 2, 3);
        x.lay(0, 0, 5);
        x.look(5, 0, 0);
        x.block(0, 0, 0, 0, 2);
        due("count(13)", x.count(13), 8);
        x.sweep();
        x.step(16);
        x.step(16);
        x.step(1);
        due("STEPS with no PAGE left", x.count(13), 12);
        for (int left = 11; left >= 0; left--) {
            due("undo()", x.undo(), 1);
            due("count(13)", x.count(13), left);
        }
        due("undo()", x.undo(), NO);
    }

    private static void twentyFour() {
        PointerSweep x = new PointerSweep();
        for (int i = 1; i <= 24; i++) {
            x.number(0, i);
            due("count(13)", x.count(13), i);
        }
        for (int i = 23; i >= 0; i--) {
            due("undo()", x.undo(), 1);
            number(x, 0, 0, i);
            due("count(13)", x.count(13), i);
        }
        due("undo()", x.undo(), NO);
        number(x, 0, 0, 0);
    }

    private static void twentyFive() {
        PointerSweep x = new PointerSweep();
        for (int i = 1; i <= 25; i++) {
            x.number(0, i);
        }
        due("count(13)", x.count(13), 24);
        for (int i = 24; i >= 1; i--) {
            due("undo()", x.undo(), 1);
            number(x, 0, 0, i);
        }
        due("the first act stays", x.undo(), NO);
        number(x, 0, 0, 1);
        due("count(13)", x.count(13), 0);
        for (int i = 1; i <= 30; i++) {
            x.number(0, 100 + i);
        }
        due("count(13)", x.count(13), 24);
        for (int i = 29; i >= 6; i--) {
            due("undo()", x.undo(), 1);
            due("told(0, 0, 1)", x.told(0, 0, 1), 100 + i);
        }
        due("undo()", x.undo(), NO);
    }

    private static void latestFirst() {
        PointerSweep x = new PointerSweep();
        x.give(0, 2);
        x.number(1, 5);
        x.lay(0, 1, 1);
        x.number(1, 6);
        due("undo()", x.undo(), 1);
        number(x, 0, 1, 5);
        number(x, 1, 1, 5);
        due("undo()", x.undo(), 1);
        number(x, 1, 1, 0);
        number(x, 0, 1, 5);
        x.number(2, 8);
        due("what was taken back is gone", x.undo(), 1);
        number(x, 0, 2, 0);
        number(x, 1, 1, 0);
        due("undo()", x.undo(), 1);
        number(x, 0, 1, 0);
        pointer(x, 0, 0, 0, 2, 0, 3);
        due("undo()", x.undo(), 1);
        number(x, 0, 0, 0);
        due("count(0)", x.count(0), 256);
        due("undo()", x.undo(), NO);
    }

    private static void countsAreTakenBack() {
        PointerSweep x = new PointerSweep();
        x.give(0, 2);
        x.give(1, 40);
        x.lay(1, 0, 0);
        x.back(0);
        x.sweep();
        x.look(2, 1, 0);
        x.step(1);
        x.step(16);
        x.lay(1, 39, 0);
        x.end();
        tallies(x, 1, 1, 1, 1, 16, 1, 1);
        x.undo();
        tallies(x, 1, 0, 0, 1, 16, 0, 0);
        due("count(12)", x.count(12), 1);
        due("count(3)", x.count(3), 2);
        due("page(2, 1)", x.page(2, 1), 1);
        due("page(15, 0)", x.page(15, 0), 1);
        x.undo();
        due("page(2, 1)", x.page(2, 1), 0);
        x.undo();
        tallies(x, 1, 0, 0, 1, 1, 0, 0);
        due("page(0, 0)", x.page(0, 0), 1);
        due("page(1, 0)", x.page(1, 0), 0);
        due("page(15, 0)", x.page(15, 0), 0);
        x.undo();
        tallies(x, 0, 0, 0, 1, 0, 0, 0);
        due("page(0, 0)", x.page(0, 0), 0);
        due("told(1, 2, 6)", x.told(1, 2, 6), 1);
        x.undo();
        tallies(x, 0, 0, 0, 0, 0, 0, 0);
        x.undo();
        due("count(12)", x.count(12), 0);
        due("count(3)", x.count(3), 0);
        due("count(2)", x.count(2), 2);
        x.undo();
        due("count(2)", x.count(2), 0);
        due("range(1, 1)", x.range(1, 1), 2);
    }

    private static void tallies(PointerSweep x, int... want) {
        for (int i = 0; i < want.length; i++) {
            due("count(" + (5 + i) + ")", x.count(5 + i), want[i]);
        }
    }
}
