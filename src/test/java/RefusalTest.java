import java.util.ArrayList;
import java.util.Arrays;
import java.util.List;
import java.util.function.Consumer;
import java.util.function.ToIntFunction;

/**
 * "BAD, NO, FULL, -10 less what a REGISTER is found to be. Of several the first; nothing changes then.":
 * each refusal in several states, those with several reasons too, and all that can be asked after it.
 */
public final class RefusalTest {
    private static final int BAD = -1, NO = -2, FULL = -3, NONE = -4;
    private static final int TAG = -11, RIGHT = -12, BOUNDS = -13;
    private static final int FAR_BAD = -1000000001, FAR_TAG = -1000000011;
    private static final int MIN = Integer.MIN_VALUE, MAX = Integer.MAX_VALUE;
    private static final int[] NO_REGISTERS = {MIN, -1, 8, MAX};
    private static final int[] NO_LENGTHS = {MIN, -1, 0, 65, MAX};

    /** So many questions to one object, because it is promised for 512 calls only. */
    private static final int SLICE = 300;
    /** So many questions ahead of a slice, to see that asking changes nothing. */
    private static final int BEFORE = 100;
    private static final int[][] QUESTIONS = questions();

    private static int wrong = 0;

    private record Refusal(String name, ToIntFunction<PointerSweep> call, int due) {
    }

    private record State(String name, Consumer<PointerSweep> acts, List<Refusal> refusals) {
    }

    public static void main(String[] args) {
        List<State> states = List.of(
                new State("new", x -> { }, whileNew()),
                new State("pointers", RefusalTest::pointers, withPointers()),
                new State("24 acts kept", RefusalTest::manyActs, withPointers()),
                new State("sweep begun", RefusalTest::sweepBegun, inSweep()),
                new State("sweep, some pages seen", RefusalTest::someSeen, inSweep()),
                new State("sweep, all but one page seen", RefusalTest::allButOneSeen, inSweep()),
                new State("sweep, all pages seen", RefusalTest::allSeen, withAllSeen()),
                new State("after a sweep", RefusalTest::ended, afterSweep()),
                new State("sweep, no act kept", RefusalTest::noActKept, withNoActKept()),
                new State("no cell free", RefusalTest::full, whileFull()),
                new State("sweep, no cell free", RefusalTest::fullInSweep, whileFullInSweep()),
                new State("no row free", RefusalTest::noRow, whileNoRow()));
        int refusals = 0;
        for (State state : states) {
            refusals += lookAt(state);
            askAll(state);
        }
        System.out.println(wrong == 0 ? "refusals: all " + refusals + " are as due" : wrong + " answers are not as due");
        if (wrong != 0) {
            System.exit(1);
        }
    }

    private static int lookAt(State state) {
        List<Refusal> all = new ArrayList<>(always());
        all.addAll(state.refusals);
        int[] ahead = wholeOf(state.acts);
        for (Refusal refusal : all) {
            String place = state.name + ": " + refusal.name;
            PointerSweep x = new PointerSweep();
            state.acts.accept(x);
            int got = refusal.call.applyAsInt(x);
            if (got != refusal.due) {
                wrong++;
                System.out.println(place + " answered " + got + ", due is " + refusal.due);
            }
            int[] after = wholeOf(y -> {
                state.acts.accept(y);
                refusal.call.applyAsInt(y);
            });
            if (!Arrays.equals(ahead, after)) {
                wrong++;
                System.out.println(place + " changed something");
            }
        }
        return all.size();
    }

    /** Not acts, and not refused: what asks must change nothing either. */
    private static void askAll(State state) {
        int[] ahead = wholeOf(state.acts);
        for (int first = 0; first < QUESTIONS.length; first += BEFORE) {
            int from = first;
            int to = Math.min(first + BEFORE, QUESTIONS.length);
            int[] after = wholeOf(x -> {
                state.acts.accept(x);
                for (int i = from; i < to; i++) {
                    ask(x, QUESTIONS[i]);
                }
            });
            if (!Arrays.equals(ahead, after)) {
                wrong++;
                System.out.println(state.name + ": asking changed something");
            }
        }
    }

    private static int[][] questions() {
        List<int[]> all = new ArrayList<>();
        for (int what = 0; what <= 13; what++) {
            all.add(new int[] {3, what});
        }
        for (int what = 0; what <= 6; what++) {
            for (int r = 0; r < 8; r++) {
                all.add(new int[] {0, 0, r, what});
            }
            for (int i = 0; i < 256; i++) {
                all.add(new int[] {0, 1, i, what});
            }
        }
        for (int what = 0; what <= 4; what++) {
            for (int p = 0; p < 16; p++) {
                all.add(new int[] {1, p, what});
            }
        }
        for (int i = 0; i < 256; i++) {
            all.add(new int[] {2, i, 0});
            all.add(new int[] {2, i, 1});
        }
        return all.toArray(new int[0][]);
    }

    private static int ask(PointerSweep x, int[] q) {
        return switch (q[0]) {
            case 0 -> x.told(q[1], q[2], q[3]);
            case 1 -> x.page(q[1], q[2]);
            case 2 -> x.range(q[1], q[2]);
            default -> x.count(q[1]);
        };
    }

    /** All that can be asked after these acts, now and with one act after the other taken back. */
    private static int[] wholeOf(Consumer<PointerSweep> acts) {
        List<Integer> answers = new ArrayList<>();
        for (int first = 0; first < QUESTIONS.length; first += SLICE) {
            PointerSweep x = new PointerSweep();
            acts.accept(x);
            for (int i = first; i < Math.min(first + SLICE, QUESTIONS.length); i++) {
                answers.add(ask(x, QUESTIONS[i]));
            }
        }
        PointerSweep x = new PointerSweep();
        acts.accept(x);
        for (int i = 0; i < 25; i++) {
            answers.add(x.undo());
            answers.add(x.count(13));
            answers.add(x.count(1));
            for (int r = 0; r < 8; r++) {
                answers.add(x.told(0, r, 1));
            }
        }
        return answers.stream().mapToInt(Integer::intValue).toArray();
    }

    /**
     * REGISTERS: 0 to CELLS 0 to 7, 1 to 8 to 11 (in QUARANTINE), 2 to 12 to 31, 3 a NUMBER, 4 to look only,
     * 5 to lay only, 6 without RIGHTS, 7 like 1 with AT -1.
     */
    private static void pointers(PointerSweep x) {
        x.give(0, 8);
        x.give(1, 4);
        x.give(2, 20);
        x.number(3, 7);
        x.narrow(4, 0, 3, 1);
        x.narrow(5, 0, 3, 2);
        x.narrow(6, 0, 3, 0);
        x.copy(7, 1);
        x.move(7, -9);
        x.lay(0, 2, 1);
        x.lay(2, 0, 7);
        x.lay(2, 18, 1);
        x.lay(2, 19, 3);
        x.lay(2, 17, 0);
        x.back(1);
    }

    private static void manyActs(PointerSweep x) {
        pointers(x);
        for (int i = 0; i < 17; i++) {
            x.number(3, i);
        }
    }

    private static void sweepBegun(PointerSweep x) {
        pointers(x);
        x.sweep();
    }

    private static void someSeen(PointerSweep x) {
        sweepBegun(x);
        x.look(3, 2, 0);
        x.step(1);
        x.lay(0, 3, 1);
        x.block(2, 2, 2, 0, 2);
        x.step(1);
    }

    private static void allButOneSeen(PointerSweep x) {
        someSeen(x);
        x.step(13);
        x.lay(2, 18, 7);
    }

    private static void allSeen(PointerSweep x) {
        allButOneSeen(x);
        x.step(16);
    }

    private static void ended(PointerSweep x) {
        allSeen(x);
        x.end();
    }

    /** Like someSeen(), but what led there can no more be taken back. */
    private static void noActKept(PointerSweep x) {
        someSeen(x);
        for (int i = 0; i < 24; i++) {
            x.number(0, i);
        }
        for (int i = 0; i < 24; i++) {
            x.undo();
        }
    }

    private static void full(PointerSweep x) {
        for (int r = 0; r < 4; r++) {
            x.give(r, 64);
        }
        x.lay(0, 0, 3);
        x.back(3);
        x.number(4, 5);
    }

    private static void fullInSweep(PointerSweep x) {
        full(x);
        x.sweep();
        x.step(3);
        x.lay(0, 40, 3);
        x.back(2);
    }

    /** 12 rows of 21 CELLS, every other one of them FREE, and 4 CELLS more that are GIVEN OUT. */
    private static void noRow(PointerSweep x) {
        for (int i = 0; i < 12; i++) {
            x.give(i % 2, 21);
            if (i % 2 == 0) {
                x.back(0);
            }
        }
        x.give(2, 4);
        x.sweep();
        x.step(16);
        x.end();
    }

    private static void add(List<Refusal> list, int due, String name, ToIntFunction<PointerSweep> call) {
        list.add(new Refusal(name, call, due));
    }

    /** What is BAD whatever else holds. */
    private static List<Refusal> always() {
        List<Refusal> list = new ArrayList<>();
        for (int r : NO_REGISTERS) {
            badRegister(list, r);
        }
        for (int n : NO_LENGTHS) {
            add(list, BAD, "give(0, " + n + ")", x -> x.give(0, n));
            add(list, BAD, "block(0, 0, 2, 0, " + n + ")", x -> x.block(0, 0, 2, 0, n));
            add(list, BAD, "block(3, 0, 3, 0, " + n + ")", x -> x.block(3, 0, 3, 0, n));
        }
        for (int n : new int[] {MIN, -1, 0}) {
            add(list, BAD, "narrow(0, 2, " + n + ", 3)", x -> x.narrow(0, 2, n, 3));
        }
        for (int k : new int[] {MIN, -1, 4, MAX}) {
            add(list, BAD, "narrow(0, 2, 1, " + k + ")", x -> x.narrow(0, 2, 1, k));
            add(list, BAD, "narrow(0, 2, MAX, " + k + ")", x -> x.narrow(0, 2, MAX, k));
        }
        for (int n : new int[] {MIN, -1, 0, 17, MAX}) {
            add(list, BAD, "step(" + n + ")", x -> x.step(n));
        }
        badQuestions(list);
        return list;
    }

    private static void badRegister(List<Refusal> list, int r) {
        add(list, BAD, "give(" + r + ", 1)", x -> x.give(r, 1));
        add(list, BAD, "give(" + r + ", 64)", x -> x.give(r, 64));
        add(list, BAD, "back(" + r + ")", x -> x.back(r));
        add(list, BAD, "number(" + r + ", 9)", x -> x.number(r, 9));
        add(list, BAD, "copy(" + r + ", 0)", x -> x.copy(r, 0));
        add(list, BAD, "copy(0, " + r + ")", x -> x.copy(0, r));
        add(list, FAR_BAD, "move(" + r + ", 1)", x -> x.move(r, 1));
        for (int s : new int[] {0, 2, 3}) { // a NUMBER is among them: BAD comes ahead of -11
            add(list, BAD, "narrow(" + r + ", " + s + ", 1, 3)", x -> x.narrow(r, s, 1, 3));
            add(list, BAD, "look(" + r + ", " + s + ", 0)", x -> x.look(r, s, 0));
            add(list, BAD, "look(" + r + ", " + s + ", MAX)", x -> x.look(r, s, MAX));
            add(list, BAD, "lay(" + s + ", 0, " + r + ")", x -> x.lay(s, 0, r));
            add(list, BAD, "lay(" + s + ", MIN, " + r + ")", x -> x.lay(s, MIN, r));
            add(list, BAD, "block(" + s + ", 0, " + r + ", 0, 1)", x -> x.block(s, 0, r, 0, 1));
            add(list, BAD, "block(" + r + ", 0, " + s + ", 0, 1)", x -> x.block(r, 0, s, 0, 1));
        }
        add(list, BAD, "narrow(0, " + r + ", 1, 3)", x -> x.narrow(0, r, 1, 3));
        add(list, BAD, "look(0, " + r + ", 0)", x -> x.look(0, r, 0));
        add(list, BAD, "lay(" + r + ", 0, 0)", x -> x.lay(r, 0, 0));
    }

    private static void badQuestions(List<Refusal> list) {
        for (int far : new int[] {MIN, -1, 256, MAX}) {
            add(list, FAR_BAD, "told(0, " + far + ", 0)", x -> x.told(0, far, 0));
            add(list, FAR_BAD, "told(1, " + far + ", 0)", x -> x.told(1, far, 0));
            add(list, FAR_BAD, "told(" + far + ", 0, 0)", x -> x.told(far, 0, 0));
            add(list, FAR_BAD, "told(1, 0, " + far + ")", x -> x.told(1, 0, far));
            add(list, BAD, "page(" + far + ", 0)", x -> x.page(far, 0));
            add(list, BAD, "page(0, " + far + ")", x -> x.page(0, far));
            add(list, BAD, "range(" + far + ", 0)", x -> x.range(far, 0));
            add(list, BAD, "range(255, " + far + ")", x -> x.range(255, far));
            add(list, BAD, "count(" + far + ")", x -> x.count(far));
        }
    }

    private static List<Refusal> whileNew() {
        List<Refusal> list = new ArrayList<>();
        for (int r = 0; r < 8; r++) {
            numberAsked(list, r);
        }
        noSweep(list);
        add(list, NO, "undo()", PointerSweep::undo);
        add(list, NONE, "range(0, 0)", x -> x.range(0, 0));
        return list;
    }

    /** What is refused of REGISTER r that holds a NUMBER, with BOUNDS that no one has. */
    private static void numberAsked(List<Refusal> list, int r) {
        add(list, TAG, "back(" + r + ")", x -> x.back(r));
        add(list, FAR_TAG, "move(" + r + ", 1)", x -> x.move(r, 1));
        add(list, TAG, "narrow(0, " + r + ", 1, 3)", x -> x.narrow(0, r, 1, 3));
        add(list, TAG, "narrow(" + r + ", " + r + ", MAX, 0)", x -> x.narrow(r, r, MAX, 0));
        add(list, TAG, "look(0, " + r + ", 0)", x -> x.look(0, r, 0));
        add(list, TAG, "look(0, " + r + ", MAX)", x -> x.look(0, r, MAX));
        add(list, TAG, "lay(" + r + ", 0, 0)", x -> x.lay(r, 0, 0));
        add(list, TAG, "lay(" + r + ", MIN, 0)", x -> x.lay(r, MIN, 0));
        add(list, TAG, "block(" + r + ", MAX, 0, MAX, 64)", x -> x.block(r, MAX, 0, MAX, 64));
    }

    private static void noSweep(List<Refusal> list) {
        add(list, NO, "step(1)", x -> x.step(1));
        add(list, NO, "step(16)", x -> x.step(16));
        add(list, NO, "end()", PointerSweep::end);
    }

    /** What holds of the REGISTERS of pointers(), with a SWEEP and without. */
    private static List<Refusal> ofPointers() {
        List<Refusal> list = new ArrayList<>();
        numberAsked(list, 3);
        for (int r : new int[] {1, 4, 5, 6, 7}) { // given back already, or less than the RANGE
            add(list, NO, "back(" + r + ")", x -> x.back(r));
        }
        for (int d : new int[] {MIN, -1, 0, 2, 3, MAX}) {
            add(list, RIGHT, "look(3, 5, " + d + ")", x -> x.look(3, 5, d));
            add(list, RIGHT, "look(3, 6, " + d + ")", x -> x.look(3, 6, d));
            add(list, RIGHT, "lay(4, " + d + ", 3)", x -> x.lay(4, d, 3));
            add(list, RIGHT, "lay(6, " + d + ", 0)", x -> x.lay(6, d, 0));
            add(list, RIGHT, "block(4, " + d + ", 0, 0, 1)", x -> x.block(4, d, 0, 0, 1));
            add(list, RIGHT, "block(0, 0, 5, " + d + ", 1)", x -> x.block(0, 0, 5, d, 1));
            add(list, RIGHT, "block(6, " + d + ", 3, 0, 64)", x -> x.block(6, d, 3, 0, 64));
        }
        outOfBounds(list);
        return list;
    }

    private static void outOfBounds(List<Refusal> list) {
        for (int d : new int[] {MIN, -1, 20, MAX}) {
            add(list, BOUNDS, "look(0, 2, " + d + ")", x -> x.look(0, 2, d));
            add(list, BOUNDS, "lay(2, " + d + ", 0)", x -> x.lay(2, d, 0));
            add(list, BOUNDS, "block(2, " + d + ", 0, 0, 1)", x -> x.block(2, d, 0, 0, 1));
            add(list, BOUNDS, "block(0, 0, 2, " + d + ", 1)", x -> x.block(0, 0, 2, d, 1));
            add(list, BOUNDS, "block(2, " + d + ", 3, 0, 1)", x -> x.block(2, d, 3, 0, 1));
            add(list, BOUNDS, "block(2, " + d + ", 5, 0, 1)", x -> x.block(2, d, 5, 0, 1));
        }
        add(list, TAG, "block(2, 0, 3, 0, 20)", x -> x.block(2, 0, 3, 0, 20));
        add(list, BOUNDS, "block(2, 0, 3, 0, 21)", x -> x.block(2, 0, 3, 0, 21));
        add(list, BOUNDS, "block(0, 0, 2, 13, 8)", x -> x.block(0, 0, 2, 13, 8));
        add(list, BOUNDS, "block(2, 13, 0, 0, 8)", x -> x.block(2, 13, 0, 0, 8));
        add(list, BOUNDS, "narrow(0, 2, 21, 3)", x -> x.narrow(0, 2, 21, 3));
        add(list, BOUNDS, "narrow(2, 2, MAX, 0)", x -> x.narrow(2, 2, MAX, 0));
        add(list, BOUNDS, "narrow(0, 7, 1, 3)", x -> x.narrow(0, 7, 1, 3));
        add(list, BOUNDS, "narrow(0, 7, MAX, 3)", x -> x.narrow(0, 7, MAX, 3));
        add(list, BOUNDS, "look(0, 7, 0)", x -> x.look(0, 7, 0));
        add(list, BOUNDS, "look(0, 7, 8)", x -> x.look(0, 7, 8));
        add(list, BOUNDS, "lay(7, 13, 0)", x -> x.lay(7, 13, 0));
        add(list, NONE, "range(8, 0)", x -> x.range(8, 0));
        add(list, NONE, "range(11, 1)", x -> x.range(11, 1));
        add(list, NONE, "range(32, 0)", x -> x.range(32, 0));
    }

    private static List<Refusal> withPointers() {
        List<Refusal> list = ofPointers();
        noSweep(list);
        return list;
    }

    private static List<Refusal> inSweep() {
        List<Refusal> list = withAllSeen();
        add(list, NO, "end()", PointerSweep::end);
        return list;
    }

    private static List<Refusal> withAllSeen() {
        List<Refusal> list = ofPointers();
        add(list, NO, "sweep()", PointerSweep::sweep);
        return list;
    }

    /** REGISTERS 1 and 7 hold NUMBERS then. */
    private static List<Refusal> afterSweep() {
        List<Refusal> list = new ArrayList<>();
        numberAsked(list, 1);
        numberAsked(list, 3);
        numberAsked(list, 7);
        noSweep(list);
        add(list, NO, "back(4)", x -> x.back(4));
        add(list, NONE, "range(8, 0)", x -> x.range(8, 0));
        return list;
    }

    private static List<Refusal> withNoActKept() {
        List<Refusal> list = inSweep();
        add(list, NO, "undo()", PointerSweep::undo);
        return list;
    }

    private static List<Refusal> ofFull() {
        List<Refusal> list = new ArrayList<>();
        for (int n : new int[] {1, 2, 63, 64}) {
            add(list, FULL, "give(0, " + n + ")", x -> x.give(0, n));
            add(list, FULL, "give(7, " + n + ")", x -> x.give(7, n));
        }
        numberAsked(list, 4);
        add(list, NO, "back(3)", x -> x.back(3));
        add(list, BOUNDS, "lay(3, 64, 0)", x -> x.lay(3, 64, 0));
        add(list, BOUNDS, "look(0, 0, -1)", x -> x.look(0, 0, -1));
        return list;
    }

    private static List<Refusal> whileFull() {
        List<Refusal> list = ofFull();
        noSweep(list);
        return list;
    }

    private static List<Refusal> whileFullInSweep() {
        List<Refusal> list = ofFull();
        add(list, NO, "sweep()", PointerSweep::sweep);
        add(list, NO, "end()", PointerSweep::end);
        add(list, NO, "back(2)", x -> x.back(2));
        return list;
    }

    private static List<Refusal> whileNoRow() {
        List<Refusal> list = new ArrayList<>();
        for (int n : new int[] {22, 23, 63, 64}) {
            add(list, FULL, "give(2, " + n + ")", x -> x.give(2, n));
            add(list, FULL, "give(6, " + n + ")", x -> x.give(6, n));
        }
        noSweep(list);
        return list;
    }
}
