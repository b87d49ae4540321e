/**
 * The boundary cases of each promise, a test for each sentence: the last value that is allowed,
 * the first that is not, on both sides; and behind each call that throws, the whole state.
 */
public final class CallsEdgeTest {
    private static final int LEAST = Integer.MIN_VALUE;
    private static final int MOST = Integer.MAX_VALUE;
    /** What is no place, no row, no line: beside the range, far away, and what would wrap round into it. */
    private static final int[] NO_PLACE = {-1, 64, 65, -64, LEAST, LEAST + 1, MOST, 1 << 16, 1 << 30};
    private static final int[] NO_LINE = {-1, 8, 9, -8, 63, LEAST, MOST, 1 << 8, 1 << 28, 1 << 29, 1 << 30, -(1 << 29)};
    private static final int[] NO_SIZE = {0, -1, 3, 5, 6, 7, 9, 10, 12, 16, 32, 64, -2, -4, -8, LEAST, MOST, 1 << 30};
    private static final int[] SIZES = {1, 2, 4, 8};

    // Promise 1

    /** "COEFFICIENTS 0, STEPS 1, SAMPLES 0; the kept SAMPLES are 0." */
    private static void newObject() {
        WaveBlocks block = new WaveBlocks();
        for (int place = 0; place < 64; place++) {
            Checks.due("new, at(" + place + ", 0)", block.at(place, 0), 0);
            Checks.due("new, at(" + place + ", 1)", block.at(place, 1), 1);
        }
        for (int y = 0; y < 8; y++) {
            Checks.due("new, samples(" + y + ")", block.samples(y), 0);
            Checks.due("new, error(" + (y + 1) + ")", block.error(y + 1), 0);
        }
        for (int y = 0; y < 8; y++) {
            block.row(y, 0x0101010101010101L);
            Checks.due("new, kept row " + y, block.error(8), 8 * (y + 1));
        }
    }

    /** "An object is used for at most 512 calls": the 512th is still answered. */
    private static void lastCall() {
        WaveBlocks block = new WaveBlocks();
        for (int call = 1; call <= 511; call++) {
            block.put(call % 64, call);
        }
        Checks.due("the 512th call", block.at(63, 0), 511);
        WaveBlocks other = new WaveBlocks();
        for (int call = 1; call <= 511; call++) {
            other.put(0, 80);
        }
        Checks.due("back(8) as the 512th call", other.back(8), 226);
    }

    // Promise 2

    /** "The COEFFICIENT of a place by the ORDER", at both ends of its range, at every place. */
    private static void putAtTheEnds() {
        WaveBlocks block = new WaveBlocks();
        for (int place = 0; place < 64; place++) {
            block.put(place, -32768);
            Checks.due("put(" + place + ", -32768)", block.at(place, 0), -32768);
            block.put(place, 32767);
            Checks.due("put(" + place + ", 32767)", block.at(place, 0), 32767);
            Checks.due("puts up to " + place, block.look(0), place + 1);
        }
        block.put(63, 0);
        Checks.due("put(63, 0)", block.at(63, 0), 0);
        Checks.due("put(63, 0) leaves the others", block.look(4), 63 * 32767);
    }

    private static void putWithoutPlace() {
        for (int place : NO_PLACE) {
            State.refused("put(" + place + ", 1)", Checks.OUTSIDE, b -> b.put(place, 1));
        }
    }

    private static void putOfWrongValue() {
        for (int value : new int[] {-32769, 32768, -65536, 65536, LEAST, MOST}) {
            State.refused("put(0, " + value + ")", Checks.ILLEGAL, b -> b.put(0, value));
            State.refused("put(63, " + value + ")", Checks.ILLEGAL, b -> b.put(63, value));
        }
    }

    /** "Of several exceptions the first one listed is thrown." */
    private static void putOfBothWrong() {
        for (int place : NO_PLACE) {
            State.refused("put(" + place + ", 32768)", Checks.OUTSIDE, b -> b.put(place, 32768));
            State.refused("put(" + place + ", -32769)", Checks.OUTSIDE, b -> b.put(place, -32769));
        }
    }

    // Promise 3

    private static void stepAtTheEnds() {
        WaveBlocks block = new WaveBlocks();
        for (int place = 0; place < 64; place++) {
            block.step(place, 255);
            Checks.due("step(" + place + ", 255)", block.at(place, 1), 255);
            Checks.due("one step of 255 at " + place, block.look(2), 63 + 255);
            block.step(place, 1);
            Checks.due("step(" + place + ", 1)", block.at(place, 1), 1);
        }
    }

    private static void stepWithoutPlace() {
        for (int place : NO_PLACE) {
            State.refused("step(" + place + ", 7)", Checks.OUTSIDE, b -> b.step(place, 7));
        }
    }

    private static void stepOfWrongValue() {
        for (int value : new int[] {0, -1, 256, 257, -255, LEAST, MOST}) {
            State.refused("step(0, " + value + ")", Checks.ILLEGAL, b -> b.step(0, value));
            State.refused("step(63, " + value + ")", Checks.ILLEGAL, b -> b.step(63, value));
        }
    }

    private static void stepOfBothWrong() {
        for (int place : NO_PLACE) {
            State.refused("step(" + place + ", 0)", Checks.OUTSIDE, b -> b.step(place, 0));
            State.refused("step(" + place + ", 256)", Checks.OUTSIDE, b -> b.step(place, 256));
        }
    }

    // Promise 4

    private static void stepsBySum(int base, int slope, int percent, int... bySum) {
        WaveBlocks block = State.filled();
        block.steps(base, slope, percent);
        for (int place = 0; place < 64; place++) {
            int sum = block.at(place, 2) + block.at(place, 3);
            String what = "steps(" + base + ", " + slope + ", " + percent + ") at " + place;
            Checks.due(what, block.at(place, 1), bySum[Math.min(sum, bySum.length - 1)]);
        }
    }

    /** "by 100 (rounded down)": the last value before the next step, and the first behind it. */
    private static void stepsRoundedDown() {
        stepsBySum(1, 0, 149, 1);
        stepsBySum(1, 0, 150, 2);
        stepsBySum(1, 0, 249, 2);
        stepsBySum(1, 0, 250, 3);
        stepsBySum(51, 0, 499, 254);
        stepsBySum(50, 0, 509, 255);
    }

    /** "but at least 1" */
    private static void stepsAtLeast() {
        stepsBySum(1, 0, 1, 1);
        stepsBySum(1, 0, 49, 1);
        stepsBySum(1, 0, 50, 1);
        stepsBySum(255, 0, 1, 3);
        stepsBySum(1, 1, 10, 1, 1, 1, 1, 1, 1, 1, 1, 1, 1, 1, 1, 1, 1, 2);
    }

    /** "and at most 255" */
    private static void stepsAtMost() {
        stepsBySum(254, 0, 100, 254);
        stepsBySum(255, 0, 100, 255);
        stepsBySum(29, 0, 881, 255);
        stepsBySum(50, 0, 511, 255);
        stepsBySum(255, 0, 101, 255);
        stepsBySum(255, 32, 5000, 255);
        stepsBySum(1, 32, 100, 1, 33, 65, 97, 129, 161, 193, 225, 255);
        stepsBySum(241, 1, 100, 241, 242, 243, 244, 245, 246, 247, 248, 249, 250, 251, 252, 253, 254, 255);
        stepsBySum(242, 1, 100, 242, 243, 244, 245, 246, 247, 248, 249, 250, 251, 252, 253, 254, 255, 255);
    }

    /** Each of the three at both its ends, with the others in the midst. */
    private static void stepsAtTheEnds() {
        stepsBySum(1, 2, 100, 1, 3, 5, 7, 9, 11, 13, 15, 17, 19, 21, 23, 25, 27, 29);
        stepsBySum(255, 2, 50, 128, 129, 130, 131, 132, 133, 134, 135, 136, 137, 138, 139, 140, 141, 142);
        stepsBySum(16, 0, 50, 8);
        stepsBySum(16, 32, 50, 8, 24, 40, 56, 72, 88, 104, 120, 136, 152, 168, 184, 200, 216, 232);
        stepsBySum(50, 32, 1, 1, 1, 1, 1, 2, 2, 2, 3, 3, 3, 4, 4, 4, 5, 5);
        stepsBySum(1, 1, 5000, 50, 100, 150, 200, 250, 255);
    }

    private static void stepsRefused(int base, int slope, int percent) {
        String what = "steps(" + base + ", " + slope + ", " + percent + ")";
        State.refused(what, Checks.ILLEGAL, b -> b.steps(base, slope, percent));
    }

    private static void stepsOfWrongBase() {
        for (int base : new int[] {0, -1, 256, 257, LEAST, MOST}) {
            stepsRefused(base, 3, 75);
        }
    }

    private static void stepsOfWrongSlope() {
        for (int slope : new int[] {-1, -2, 33, 34, LEAST, MOST}) {
            stepsRefused(16, slope, 75);
        }
    }

    private static void stepsOfWrongPercent() {
        for (int percent : new int[] {0, -1, 5001, 5002, LEAST, MOST}) {
            stepsRefused(16, 3, percent);
        }
    }

    private static void stepsOfSeveralWrong() {
        stepsRefused(0, -1, 0);
        stepsRefused(256, 33, 5001);
        stepsRefused(0, 33, 100);
        stepsRefused(16, -1, 5001);
        stepsRefused(LEAST, MOST, LEAST);
    }

    // Promise 5

    /** "the first one in the highest byte of a long": each byte of each row, at both ends. */
    private static void rowAtTheEnds() {
        for (int y = 0; y < 8; y++) {
            WaveBlocks block = new WaveBlocks();
            for (long eight : new long[] {0L, -1L, Long.MIN_VALUE, Long.MAX_VALUE, 0x00FF00FF00FF00FFL, 0x807F80FF01FE00AAL}) {
                block.row(y, eight);
                Checks.due("row(" + y + ", " + eight + ")", block.samples(y), eight);
            }
            Checks.due("row leaves the other rows", block.look(3), 0x80 + 0x7F + 0x80 + 0xFF + 1 + 0xFE + 0xAA);
            for (int x = 0; x < 8; x++) {
                block.row(y, 255L << (56 - 8 * x));
                block.keep();
                block.row(y, 0L);
                int within = Math.max(x, y) + 1;
                Checks.due("the sample (" + y + ", " + x + ")", block.error(within), 65025);
                if (within > 1) {
                    Checks.due("the sample (" + y + ", " + x + ") is not before", block.error(within - 1), 0);
                }
            }
        }
    }

    private static void rowOfNone() {
        for (int y : NO_LINE) {
            State.refused("row(" + y + ", -1)", Checks.OUTSIDE, b -> b.row(y, -1L));
        }
    }

    // Promise 6

    private static void backOfNoSize() {
        for (int n : NO_SIZE) {
            State.refused("back(" + n + ")", Checks.ILLEGAL, b -> b.back(n));
        }
    }

    /** A size that there is leaves coefficients, steps and kept samples alone. */
    private static void backLeavesTheOthers() {
        for (int n : SIZES) {
            WaveBlocks block = State.filled();
            block.back(n);
            WaveBlocks want = State.filled();
            for (int y = 0; y < 8; y++) {
                want.row(y, block.samples(y));
            }
            State.same("back(" + n + ")", block, want);
        }
    }

    /** What an earlier call has reckoned does not come into "the greatest |P| that there was". */
    private static void backForgetsWhatWas() {
        WaveBlocks block = new WaveBlocks();
        block.put(63, 32767);
        block.step(63, 255);
        block.back(8);
        block.clear();
        for (int n : SIZES) {
            Checks.due("back(" + n + ") of nothing", block.back(n), 0);
        }
        block.put(0, 80);
        block.exact(7, 7);
        Checks.due("back(1) behind exact", block.back(1), 226);
        block.forward();
        block.clear();
        Checks.due("back(8) behind forward and clear", block.back(8), 0);
    }

    // Promise 7

    /** "how many COEFFICIENTS are not 0 then": none, one, all 64. */
    private static void forwardAtTheEnds() {
        WaveBlocks none = State.filled();
        for (int y = 0; y < 8; y++) {
            none.row(y, 0x8080808080808080L);
        }
        Checks.due("forward() of grey", none.forward(), 0);
        Checks.due("forward() of grey, the last place", none.look(1), WaveBlocks.NONE);
        WaveBlocks one = new WaveBlocks();
        Checks.due("forward() of black", one.forward(), 1);
        Checks.due("forward() of black, the first", one.at(0, 0), -1024);
        WaveBlocks all = new WaveBlocks();
        for (int y = 0; y < 8; y++) {
            long eight = 0;
            for (int x = 0; x < 8; x++) {
                eight = eight << 8 | (y * 37 + x * x * 11 + y * x * 5) % 256;
            }
            all.row(y, eight);
        }
        Checks.due("forward() of a picture, steps of 1", all.forward(), 64);
        all.steps(255, 0, 100);
        Checks.due("forward() of a picture, steps of 255", all.forward(), 5);
    }

    /** It leaves steps, samples and kept samples alone, and what was in the coefficients is gone. */
    private static void forwardLeavesTheOthers() {
        WaveBlocks block = State.filled();
        block.forward();
        WaveBlocks again = State.filled();
        again.clear();
        again.forward();
        State.same("forward(), and clear() before it", block, again);
        WaveBlocks cleared = State.filled();
        cleared.forward();
        cleared.clear();
        WaveBlocks want = State.filled();
        want.clear();
        State.same("forward() and clear()", cleared, want);
    }

    // Promise 8

    /** "The SAMPLES are kept", as they were then; a second keep() finds nothing to change. */
    private static void keepKeeps() {
        WaveBlocks once = State.filled();
        once.keep();
        for (int which = 0; which < 5; which++) {
            Checks.due("keep(), look(" + which + ")", once.look(which), State.filled().look(which));
        }
        for (int y = 0; y < 8; y++) {
            Checks.due("keep(), samples(" + y + ")", once.samples(y), State.filled().samples(y));
            Checks.due("keep(), error(" + (y + 1) + ")", once.error(y + 1), 0);
        }
        WaveBlocks twice = State.filled();
        twice.keep();
        twice.keep();
        State.same("keep() twice", twice, once);
        WaveBlocks block = new WaveBlocks();
        block.row(7, 255L);
        block.keep();
        Checks.due("keep() leaves the samples", block.samples(7), 255);
        Checks.due("kept, error(8)", block.error(8), 0);
        block.row(7, 0L);
        Checks.due("a row behind keep(), error(8)", block.error(8), 65025);
        block.back(8);
        Checks.due("back(8) behind keep(), error(8)", block.error(8), 63 * 128 * 128 + 127 * 127);
    }

    // Promise 9

    /** "for y and x below n": the last that counts, and the first that does not. */
    private static void errorBelowItsSize() {
        for (int n = 1; n <= 8; n++) {
            errorOfOne(n, n - 1, n - 1, 1);
            errorOfOne(n, n - 1, 0, 1);
            errorOfOne(n, 0, n - 1, 1);
            if (n < 8) {
                errorOfOne(n, n, 0, 0);
                errorOfOne(n, 0, n, 0);
                errorOfOne(n, n, n, 0);
                errorOfOne(n, n - 1, n, 0);
                errorOfOne(n, n, n - 1, 0);
            }
        }
    }

    private static void errorOfOne(int n, int y, int x, int due) {
        WaveBlocks block = new WaveBlocks();
        block.row(y, 1L << (56 - 8 * x));
        Checks.due("error(" + n + ") of (" + y + ", " + x + ")", block.error(n), due);
    }

    private static void errorOfNoSize() {
        for (int n : new int[] {0, -1, 9, 10, 16, LEAST, MOST}) {
            State.refused("error(" + n + ")", Checks.ILLEGAL, b -> b.error(n));
        }
        for (int n = 1; n <= 8; n++) {
            int allowed = n;
            State.left("error(" + n + ")", b -> b.error(allowed));
        }
    }

    // Promise 10

    /** "All COEFFICIENTS are 0", none of them too, and nothing else is touched. */
    private static void clearOfAllAndOfNone() {
        WaveBlocks block = State.filled();
        Checks.due("filled, look(0)", block.look(0), 64);
        block.clear();
        WaveBlocks want = State.filled();
        for (int place = 0; place < 64; place++) {
            Checks.due("cleared, at(" + place + ", 0)", block.at(place, 0), 0);
            want.put(place, 0);
        }
        State.same("clear()", block, want);
        WaveBlocks fresh = new WaveBlocks();
        fresh.clear();
        State.same("clear() of a new one", fresh, new WaveBlocks());
    }

    // Promise 11

    private static void atTheEnds() {
        int[][] due = {{0, 0, 100}, {0, 1, 2}, {0, 2, 0}, {0, 3, 0}, {63, 0, -163}, {63, 1, 191}, {63, 2, 7}, {63, 3, 7}};
        for (int[] d : due) {
            String what = "at(" + d[0] + ", " + d[1] + ")";
            Checks.due(what, State.filled().at(d[0], d[1]), d[2]);
            State.left(what, b -> b.at(d[0], d[1]));
        }
    }

    private static void atNoPlace() {
        for (int place : NO_PLACE) {
            for (int what = 0; what <= 3; what++) {
                int allowed = what;
                State.refused("at(" + place + ", " + what + ")", Checks.OUTSIDE, b -> b.at(place, allowed));
            }
        }
    }

    private static void atNoWhat() {
        for (int what : new int[] {-1, 4, 5, LEAST, MOST}) {
            for (int place : new int[] {0, 63, -1, 64}) {
                State.refused("at(" + place + ", " + what + ")", Checks.OUTSIDE, b -> b.at(place, what));
            }
        }
    }

    // Promise 12

    /** "NONE if there is none": also where v * 8 + u would lie inside the block. */
    private static void orderOfNone() {
        for (int none : NO_LINE) {
            for (int line = 0; line < 8; line++) {
                Checks.due("order(" + none + ", " + line + ")", new WaveBlocks().order(none, line), WaveBlocks.NONE);
                Checks.due("order(" + line + ", " + none + ")", new WaveBlocks().order(line, none), WaveBlocks.NONE);
            }
            Checks.due("order(" + none + ", " + none + ")", new WaveBlocks().order(none, none), WaveBlocks.NONE);
        }
        Checks.due("order(-1, 8)", new WaveBlocks().order(-1, 8), WaveBlocks.NONE);
        Checks.due("order(8, -1)", new WaveBlocks().order(8, -1), WaveBlocks.NONE);
        Checks.due("order(7, 7)", new WaveBlocks().order(7, 7), 63);
        Checks.due("order(0, 0)", new WaveBlocks().order(0, 0), 0);
        Checks.due("order(7, 0)", new WaveBlocks().order(7, 0), 35);
        Checks.due("order(0, 7)", new WaveBlocks().order(0, 7), 28);
        State.left("order(8, 0)", b -> b.order(8, 0));
    }

    // Promise 13

    /** "0 if there is no such row": of a block that is white all over. */
    private static void samplesOfNone() {
        WaveBlocks white = new WaveBlocks();
        for (int y = 0; y < 8; y++) {
            white.row(y, -1L);
        }
        for (int none : NO_LINE) {
            Checks.due("samples(" + none + ")", white.samples(none), 0);
        }
        for (int y = 0; y < 8; y++) {
            Checks.due("samples(" + y + ") of white", white.samples(y), -1L);
        }
        State.left("samples(8)", b -> b.samples(8));
        State.left("samples(-1)", b -> b.samples(-1));
        State.left("samples(7)", b -> b.samples(7));
    }

    // Promise 14

    private static void exactOfNone() {
        for (int none : NO_LINE) {
            for (int line : new int[] {0, 1, 7}) {
                State.refused("exact(" + none + ", " + line + ")", Checks.OUTSIDE, b -> b.exact(none, line));
                State.refused("exact(" + line + ", " + none + ")", Checks.OUTSIDE, b -> b.exact(line, none));
            }
        }
        State.refused("exact(-1, 8)", Checks.OUTSIDE, b -> b.exact(-1, 8));
        State.refused("exact(8, -1)", Checks.OUTSIDE, b -> b.exact(8, -1));
    }

    /** "E(v, u) of the SAMPLES as they are": whatever the steps are, and nothing is written. */
    private static void exactChangesNothing() {
        for (int line : new int[] {0, 7}) {
            State.left("exact(" + line + ", 0)", b -> b.exact(line, 0));
            State.left("exact(" + line + ", 7)", b -> b.exact(line, 7));
        }
        WaveBlocks block = new WaveBlocks();
        Checks.due("exact(0, 0) of black", block.exact(0, 0), -1024);
        block.steps(255, 32, 5000);
        Checks.due("exact(0, 0) at steps of 255", block.exact(0, 0), -1024);
        for (int y = 0; y < 8; y++) {
            block.row(y, -1L);
        }
        Checks.due("exact(0, 0) of white", block.exact(0, 0), 1016);
    }

    // Promise 15

    private static void waveOfNoSize() {
        for (int n : NO_SIZE) {
            State.refused("wave(" + n + ", 0, 0)", Checks.ILLEGAL, b -> b.wave(n, 0, 0));
            State.refused("wave(" + n + ", 1, 1)", Checks.ILLEGAL, b -> b.wave(n, 1, 1));
            State.refused("wave(" + n + ", -1, 8)", Checks.ILLEGAL, b -> b.wave(n, -1, 8));
        }
    }

    /** u and x are 0 .. n - 1: the last that there is, and the first that there is not. */
    private static void waveAtTheEnds() {
        int[] last = {5793, -5793, -3135, -1598};
        for (int i = 0; i < 4; i++) {
            int n = SIZES[i];
            Checks.due("wave(" + n + ", n - 1, n - 1)", new WaveBlocks().wave(n, n - 1, n - 1), last[i]);
            State.left("wave(" + n + ", n - 1, n - 1)", b -> b.wave(n, n - 1, n - 1));
            for (int none : new int[] {-1, n, n + 1, -n, 8, LEAST, MOST}) {
                State.refused("wave(" + n + ", " + none + ", 0)", Checks.ILLEGAL, b -> b.wave(n, none, 0));
                State.refused("wave(" + n + ", 0, " + none + ")", Checks.ILLEGAL, b -> b.wave(n, 0, none));
                State.refused("wave(" + n + ", n - 1, " + none + ")", Checks.ILLEGAL, b -> b.wave(n, n - 1, none));
                State.refused("wave(" + n + ", " + none + ", n - 1)", Checks.ILLEGAL, b -> b.wave(n, none, n - 1));
            }
        }
    }

    // Promise 16

    private static void looks(String what, WaveBlocks block, int... due) {
        for (int which = 0; which < 5; which++) {
            Checks.due(what + ", look(" + which + ")", block.look(which), due[which]);
        }
    }

    /** Nothing at all, and as much as there can be. */
    private static void lookAtTheEnds() {
        looks("new", new WaveBlocks(), 0, WaveBlocks.NONE, 64, 0, 0);
        WaveBlocks full = new WaveBlocks();
        full.steps(255, 0, 100);
        for (int y = 0; y < 8; y++) {
            full.row(y, -1L);
        }
        for (int place = 0; place < 64; place++) {
            full.put(place, -32768);
        }
        looks("full", full, 64, 63, 16320, 16320, 2097152);
        full.clear();
        looks("full, and cleared", full, 0, WaveBlocks.NONE, 16320, 16320, 0);
    }

    /** "the last place by the ORDER of one that is not 0 (NONE without one)": each place by itself. */
    private static void lookForTheLast() {
        for (int place = 0; place < 64; place++) {
            WaveBlocks block = new WaveBlocks();
            block.put(place, place % 2 == 0 ? 1 : -1);
            Checks.due("one at " + place + " alone, look(1)", block.look(1), place);
            block.put(0, 1);
            Checks.due("one at " + place + " and one at 0, look(1)", block.look(1), place);
            block.put(place, 0);
            Checks.due("none at " + place + ", look(1)", block.look(1), place == 0 ? WaveBlocks.NONE : 0);
        }
    }

    /** "NONE for any other which." */
    private static void lookForNone() {
        for (int which : new int[] {-1, 5, 6, -5, LEAST, MOST}) {
            Checks.due("look(" + which + ")", State.filled().look(which), WaveBlocks.NONE);
            State.left("look(" + which + ")", b -> b.look(which));
        }
    }

    private static void promisesUpToEight() {
        newObject();
        lastCall();
        putAtTheEnds();
        putWithoutPlace();
        putOfWrongValue();
        putOfBothWrong();
        stepAtTheEnds();
        stepWithoutPlace();
        stepOfWrongValue();
        stepOfBothWrong();
        stepsRoundedDown();
        stepsAtLeast();
        stepsAtMost();
        stepsAtTheEnds();
        stepsOfWrongBase();
        stepsOfWrongSlope();
        stepsOfWrongPercent();
        stepsOfSeveralWrong();
        rowAtTheEnds();
        rowOfNone();
        backOfNoSize();
        backLeavesTheOthers();
        backForgetsWhatWas();
        forwardAtTheEnds();
        forwardLeavesTheOthers();
        keepKeeps();
    }

    private static void promisesFromNineOn() {
        errorBelowItsSize();
        errorOfNoSize();
        clearOfAllAndOfNone();
        atTheEnds();
        atNoPlace();
        atNoWhat();
        orderOfNone();
        samplesOfNone();
        exactOfNone();
        exactChangesNothing();
        waveOfNoSize();
        waveAtTheEnds();
        lookAtTheEnds();
        lookForTheLast();
        lookForNone();
    }

    public static void main(String[] args) {
        promisesUpToEight();
        promisesFromNineOn();
        Checks.end();
    }
}
