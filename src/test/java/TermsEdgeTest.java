/**
 * The boundary cases of the document's terms, a test for each sentence.
 * The numbers were reckoned outside of Java, from the document's terms alone.
 */
public final class TermsEdgeTest {
    private static final int[] SIZES = {1, 2, 4, 8};
    private static final long GREY = 0x8080808080808080L;

    /** COS(0) .. COS(31), written out. */
    private static final int[] COS = {
        8192, 8035, 7568, 6811, 5793, 4551, 3135, 1598, 0, -1598, -3135, -4551, -5793, -6811, -7568, -8035,
        -8192, -8035, -7568, -6811, -5793, -4551, -3135, -1598, 0, 1598, 3135, 4551, 5793, 6811, 7568, 8035,
    };

    private static WaveBlocks grey() {
        WaveBlocks block = new WaveBlocks();
        for (int y = 0; y < 8; y++) {
            block.row(y, GREY);
        }
        return block;
    }

    private static long rowOf(int... aboveGrey) {
        long eight = 0;
        for (int above : aboveGrey) {
            eight = eight << 8 | (128 + above);
        }
        return eight;
    }

    private static int sampleAt(WaveBlocks block, int y, int x) {
        return (int) (block.samples(y) >>> (56 - 8 * x)) & 255;
    }

    private static void rows(String what, WaveBlocks block, long... rows) {
        for (int y = 0; y < 8; y++) {
            Checks.due(what + ", samples(" + y + ")", block.samples(y), rows[y]);
        }
    }

    /** "COS(m) for m from 0 on, with m modulo 32": each way to each m, up to 105. */
    private static void cosineGoesRound() {
        for (int n : SIZES) {
            WaveBlocks block = new WaveBlocks();
            for (int u = 1; u < n; u++) {
                for (int x = 0; x < n; x++) {
                    int m = (2 * x + 1) * u * (8 / n);
                    Checks.due("wave(" + n + ", " + u + ", " + x + "), m " + m, block.wave(n, u, x), COS[m % 32]);
                }
            }
        }
    }

    /** The last m before each turn of COS and the first behind it: {u, x, due} of size 8. */
    private static void cosineAtItsTurns() {
        int[][] turns = {
            {7, 0, 1598}, {1, 4, -1598}, {1, 7, -8035}, {7, 3, -8035}, {5, 5, -1598}, {5, 2, 1598},
            {7, 4, 8035}, {3, 5, 8035}, {7, 7, -1598}, {4, 3, 5793}, {6, 7, 3135}, {2, 7, 7568},
        };
        for (int[] t : turns) {
            Checks.due("wave(8, " + t[0] + ", " + t[1] + ")", new WaveBlocks().wave(8, t[0], t[1]), t[2]);
        }
    }

    /** "K(4) if u is 0", for each x; the first u behind it is a cosine. */
    private static void waveOfNone() {
        int[] first = {0, 5793, 7568, 8035};
        for (int i = 0; i < 4; i++) {
            for (int x = 0; x < SIZES[i]; x++) {
                Checks.due("wave(" + SIZES[i] + ", 0, " + x + ")", new WaveBlocks().wave(SIZES[i], 0, x), 5793);
            }
            if (SIZES[i] > 1) {
                Checks.due("wave(" + SIZES[i] + ", 1, 0)", new WaveBlocks().wave(SIZES[i], 1, 0), first[i]);
            }
        }
    }

    /** "ROUND(v, s) is v + 2^(s - 1), shifted right by s (rounded down)", s 11: {coefficient, |P|}. */
    private static void firstRoundOfBack() {
        int[][] halves = {
            {1695, 4794}, {1024, 2897}, {353, 999}, {-353, 999}, {-1024, 2896}, {-1695, 4794},
            {0, 0}, {1, 3}, {-1, 3}, {-4, 11}, {3072, 8690}, {-3072, 8689},
        };
        for (int[] h : halves) {
            for (int n : SIZES) {
                WaveBlocks block = new WaveBlocks();
                block.put(0, h[0]);
                Checks.due("back(" + n + ") of " + h[0], block.back(n), h[1]);
            }
        }
    }

    /** The same with s 17: below the half, on it, above it, on both sides of 0: {u, value, u, value, x, sample}. */
    private static void secondRoundOfBack() {
        int[][] halves = {
            {4, -144, 5, -44, 5, 147}, {1, 33, 4, -38, 5, 130}, {1, 243, 4, 3, 2, 152},
            {3, -103, 7, 263, 5, 71}, {1, 165, 6, 145, 4, 113}, {4, 149, 5, -293, 5, 120},
        };
        for (int[] h : halves) {
            WaveBlocks block = new WaveBlocks();
            block.put(block.order(0, h[0]), h[1]);
            block.put(block.order(0, h[2]), h[3]);
            block.back(8);
            for (int y = 0; y < 8; y++) {
                String what = "back(8) of " + h[1] + " and " + h[3] + " across, sample (" + y + ", " + h[4] + ")";
                Checks.due(what, sampleAt(block, y, h[4]), h[5]);
            }
        }
    }

    /** FORWARD's first ROUND: one column, two samples in it: {y, above grey, y, above grey, v, u, E}. */
    private static void firstRoundOfForward() {
        int[][] halves = {
            {1, 2, 3, -79, 7, 0, 13}, {0, 124, 4, -68, 2, 1, 44}, {3, 33, 5, 82, 6, 1, 16},
            {4, 37, 7, 57, 1, 1, -16}, {1, 3, 5, -61, 6, 1, -14}, {2, 33, 7, -46, 2, 1, -13},
        };
        for (int[] h : halves) {
            WaveBlocks block = grey();
            block.row(h[0], rowOf(h[1], 0, 0, 0, 0, 0, 0, 0));
            block.row(h[2], rowOf(h[3], 0, 0, 0, 0, 0, 0, 0));
            String what = "exact(" + h[4] + ", " + h[5] + ") of " + h[1] + " and " + h[3] + " down";
            Checks.due(what, block.exact(h[4], h[5]), h[6]);
            block.forward();
            Checks.due(what + ", by forward()", block.at(block.order(h[4], h[5]), 0), h[6]);
        }
    }

    private static void secondForward(long first, int v, int u, int due) {
        WaveBlocks block = grey();
        block.row(0, first);
        String what = "exact(" + v + ", " + u + ") of the first row " + Long.toHexString(first);
        Checks.due(what, block.exact(v, u), due);
        block.forward();
        Checks.due(what + ", by forward()", block.at(block.order(v, u), 0), due);
    }

    /** FORWARD's second ROUND: below the half, on it, above it, on both sides of 0. */
    private static void secondRoundOfForward() {
        secondForward(rowOf(92, 0, -58, 0, 0, 0, 0, 0), 7, 3, 6);
        secondForward(rowOf(71, 0, 0, 0, 0, 0, 49, 0), 0, 5, 16);
        secondForward(rowOf(0, 0, 0, 0, -108, 0, 28, 0), 0, 2, 20);
        secondForward(rowOf(0, 0, 0, 0, 0, 0, -33, 57), 0, 3, -10);
        secondForward(rowOf(0, 0, 0, 41, 0, 0, 105, 0), 7, 6, -5);
        secondForward(rowOf(0, 0, 0, 0, 0, 40, 0, -66), 0, 2, -13);
    }

    /** "The ORDER numbers the places by diagonals": the first and the last place of each, {place, v, u}. */
    private static void orderAtTheEndsOfDiagonals() {
        int[][] ends = {
            {0, 0, 0}, {1, 0, 1}, {2, 1, 0}, {3, 2, 0}, {5, 0, 2}, {6, 0, 3}, {9, 3, 0}, {10, 4, 0}, {14, 0, 4},
            {15, 0, 5}, {20, 5, 0}, {21, 6, 0}, {27, 0, 6}, {28, 0, 7}, {35, 7, 0}, {36, 7, 1}, {42, 1, 7},
            {43, 2, 7}, {48, 7, 2}, {49, 7, 3}, {53, 3, 7}, {54, 4, 7}, {57, 7, 4}, {58, 7, 5}, {60, 5, 7},
            {61, 6, 7}, {62, 7, 6}, {63, 7, 7},
        };
        WaveBlocks block = new WaveBlocks();
        for (int[] e : ends) {
            Checks.due("order(" + e[1] + ", " + e[2] + ")", block.order(e[1], e[2]), e[0]);
            Checks.due("v of the place " + e[0], block.at(e[0], 2), e[1]);
            Checks.due("u of the place " + e[0], block.at(e[0], 3), e[2]);
        }
    }

    /** "0 if that is below 0, 255 if it is above 255": {coefficient, step, sample}, all samples alike. */
    private static void samplesAtTheirEnds() {
        int[][] levels = {
            {-1018, 1, 1}, {-1019, 1, 1}, {-1020, 1, 0}, {-1027, 1, 0}, {-1028, 1, 0}, {-1036, 1, 0}, {-1043, 1, 0},
            {-32768, 1, 0}, {-32768, 255, 0},
            {1011, 1, 254}, {1012, 1, 255}, {1019, 1, 255}, {1020, 1, 255}, {1028, 1, 255}, {1037, 1, 255},
            {32767, 1, 255}, {32767, 255, 255},
        };
        for (int[] l : levels) {
            for (int n : SIZES) {
                WaveBlocks block = new WaveBlocks();
                block.put(0, l[0]);
                block.step(0, l[1]);
                block.back(n);
                String what = "back(" + n + ") of " + l[0] + " times " + l[1];
                Checks.due(what + ", the first sample", sampleAt(block, 0, 0), l[2]);
                Checks.due(what + ", the sum of the samples", block.look(3), n * n * l[2]);
            }
        }
    }

    /** "SAMPLES (y, x), y and x below n; the others stay": no coefficients make grey. */
    private static void othersStay() {
        long before = 0x1122334455667788L;
        long[] below = {0x8022334455667788L, 0x8080334455667788L, 0x8080808055667788L, GREY};
        for (int i = 0; i < 4; i++) {
            WaveBlocks block = new WaveBlocks();
            for (int y = 0; y < 8; y++) {
                block.row(y, before);
            }
            Checks.due("back(" + SIZES[i] + ") of nothing", block.back(SIZES[i]), 0);
            for (int y = 0; y < 8; y++) {
                String what = "back(" + SIZES[i] + ") of nothing, samples(" + y + ")";
                Checks.due(what, block.samples(y), y < SIZES[i] ? below[i] : before);
            }
        }
    }

    /** "for v and u below n": the first ones that are not below add nothing, to P or to the samples. */
    private static void coefficientsOutsideAddNothing() {
        for (int n : new int[] {1, 2, 4}) {
            int[][] outside = {{n, 0}, {0, n}, {n, n}, {n - 1, n}, {n, n - 1}, {7, 7}};
            for (int[] o : outside) {
                WaveBlocks block = new WaveBlocks();
                block.put(0, 80);
                block.put(block.order(o[0], o[1]), -32768);
                block.step(block.order(o[0], o[1]), 255);
                String what = "back(" + n + ") with (" + o[0] + ", " + o[1] + ")";
                Checks.due(what, block.back(n), 226);
                Checks.due(what + ", the sum of the samples", block.look(3), n * n * 138);
            }
        }
    }

    /** The last ones that are below n add: {n, v, u, |P|, the four corners of the samples}; 64 times 3 there. */
    private static void coefficientsInsideAdd() {
        int[][] inside = {
            {1, 0, 0, 543, 152, 152, 152, 152},
            {2, 0, 1, 543, 152, 104, 152, 104}, {2, 1, 0, 543, 152, 152, 104, 104}, {2, 1, 1, 543, 152, 104, 104, 152},
            {4, 0, 3, 543, 141, 115, 141, 115}, {4, 3, 0, 710, 141, 141, 115, 115}, {4, 3, 3, 710, 135, 121, 121, 135},
            {8, 0, 7, 543, 135, 121, 135, 121}, {8, 7, 0, 753, 135, 135, 121, 121}, {8, 7, 7, 753, 130, 126, 126, 130},
        };
        for (int[] i : inside) {
            WaveBlocks block = new WaveBlocks();
            block.put(block.order(i[1], i[2]), 64);
            block.step(block.order(i[1], i[2]), 3);
            String what = "back(" + i[0] + ") of (" + i[1] + ", " + i[2] + ")";
            Checks.due(what, block.back(i[0]), i[3]);
            int last = i[0] - 1;
            Checks.due(what + ", upper left", sampleAt(block, 0, 0), i[4]);
            Checks.due(what + ", upper right", sampleAt(block, 0, last), i[5]);
            Checks.due(what + ", lower left", sampleAt(block, last, 0), i[6]);
            Checks.due(what + ", lower right", sampleAt(block, last, last), i[7]);
        }
    }

    private static WaveBlocks pair(int first, int v, int u, int second) {
        WaveBlocks block = new WaveBlocks();
        block.steps(255, 0, 100);
        block.put(0, first);
        block.put(block.order(v, u), second);
        return block;
    }

    /** "The sums are whole numbers without bounds": great terms that take each other away, across and down. */
    private static void sumsHaveNoBounds() {
        WaveBlocks across = pair(32767, 0, 4, -32767);
        Checks.due("back(8) of two great ones across", across.back(8), 23634719L);
        long a = 0x80FFFF8080FFFF80L;
        rows("two great ones across", across, a, a, a, a, a, a, a, a);
        WaveBlocks least = pair(-32768, 0, 4, 32767);
        Checks.due("back(8) of the least across", least.back(8), 23635440L);
        long b = 0x6000006060000060L;
        rows("the least across", least, b, b, b, b, b, b, b, b);
        WaveBlocks down = pair(32767, 4, 0, -32768);
        Checks.due("back(8) of two great ones down", down.back(8), 47270159L);
        long c = 0x6060606060606060L;
        rows("two great ones down", down, c, -1L, -1L, c, c, -1L, -1L, c);
    }

    /** The greatest |P| of all: the least coefficient everywhere, at the greatest step. */
    private static void greatestOfAll() {
        long[] greatest = {23635440L, 47270880L, 90939120L, 176598720L};
        for (int i = 0; i < 4; i++) {
            WaveBlocks block = new WaveBlocks();
            block.steps(255, 0, 100);
            for (int place = 0; place < 64; place++) {
                block.put(place, -32768);
            }
            Checks.due("back(" + SIZES[i] + ") of the least everywhere", block.back(SIZES[i]), greatest[i]);
        }
    }

    /** "E / STEP, rounded to the nearest (a half away from 0)": {E, step, coefficient}; E stands in (0, 0). */
    private static void quotientsAtTheHalf() {
        int[][] halves = {
            {7, 16, 0}, {8, 16, 1}, {8, 17, 0}, {23, 16, 1}, {24, 16, 2}, {25, 16, 2}, {24, 17, 1},
            {-7, 16, 0}, {-8, 16, -1}, {-8, 17, 0}, {-23, 16, -1}, {-24, 16, -2}, {-25, 16, -2}, {-24, 17, -1},
            {126, 254, 0}, {127, 254, 1}, {127, 255, 0}, {128, 255, 1}, {127, 1, 127},
            {-126, 254, 0}, {-127, 254, -1}, {-127, 255, 0}, {-128, 255, -1}, {-127, 1, -127},
            {1, 2, 1}, {-1, 2, -1}, {1, 3, 0}, {-1, 3, 0}, {2, 3, 1}, {-2, 3, -1},
        };
        for (int[] h : halves) {
            WaveBlocks block = grey();
            spread(block, 8 * h[0]);
            block.step(0, h[1]);
            Checks.due("exact(0, 0) that should be " + h[0], block.exact(0, 0), h[0]);
            block.forward();
            Checks.due("forward() of " + h[0] + " by " + h[1], block.at(0, 0), h[2]);
        }
    }

    /** Lifts the first samples above grey, or below it, by so much in all. */
    private static void spread(WaveBlocks block, int total) {
        int left = total;
        for (int y = 0; y < 8; y++) {
            int[] above = new int[8];
            for (int x = 0; x < 8; x++) {
                above[x] = Math.max(-128, Math.min(127, left));
                left -= above[x];
            }
            block.row(y, rowOf(above));
        }
    }

    /** The greatest and the least E that a block can have at each place. */
    private static void exactAtItsEnds() {
        int[][] most = {
            {1016, 924, 942, 924, 1020, 924, 942, 924}, {924, 837, 854, 837, 924, 837, 854, 837},
            {942, 854, 870, 854, 942, 854, 870, 854}, {924, 837, 854, 837, 924, 837, 854, 837},
            {1020, 924, 942, 924, 1020, 924, 942, 924}, {924, 837, 854, 837, 924, 837, 854, 837},
            {942, 854, 870, 854, 942, 854, 870, 854}, {924, 837, 854, 837, 924, 837, 854, 837},
        };
        for (int v = 0; v < 8; v++) {
            for (int u = 0; u < 8; u++) {
                exactOfBlackAndWhite(v, u, 1, most[v][u]);
                exactOfBlackAndWhite(v, u, -1, v + u == 0 ? -1024 : -most[v][u]);
            }
        }
    }

    private static void exactOfBlackAndWhite(int v, int u, int sign, int due) {
        WaveBlocks block = new WaveBlocks();
        for (int y = 0; y < 8; y++) {
            long eight = 0;
            for (int x = 0; x < 8; x++) {
                int down = v == 0 ? 1 : COS[(2 * y + 1) * v % 32];
                int across = u == 0 ? 1 : COS[(2 * x + 1) * u % 32];
                eight = eight << 8 | (down * across * sign > 0 ? 255 : 0);
            }
            block.row(y, eight);
        }
        Checks.due("exact(" + v + ", " + u + ") at its end " + sign, block.exact(v, u), due);
        block.forward();
        Checks.due("forward() at its end, (" + v + ", " + u + ")", block.at(block.order(v, u), 0), due);
    }

    /** "The ERROR .. is the sum of the squares": no difference, the least one, the greatest one, both ways. */
    private static void errorAtItsEnds() {
        WaveBlocks block = new WaveBlocks();
        Checks.due("no difference", block.error(8), 0);
        block.row(0, 1L << 56);
        Checks.due("one more", block.error(1), 1);
        block.keep();
        block.row(0, 0L);
        Checks.due("one less", block.error(1), 1);
        for (int y = 0; y < 8; y++) {
            block.row(y, -1L);
        }
        block.keep();
        Checks.due("white against white", block.error(8), 0);
        for (int y = 0; y < 8; y++) {
            block.row(y, 0L);
        }
        Checks.due("black against white", block.error(8), 4161600);
        block.keep();
        for (int y = 0; y < 8; y++) {
            block.row(y, -1L);
        }
        Checks.due("white against black", block.error(8), 4161600);
    }

    public static void main(String[] args) {
        cosineGoesRound();
        cosineAtItsTurns();
        waveOfNone();
        firstRoundOfBack();
        secondRoundOfBack();
        firstRoundOfForward();
        secondRoundOfForward();
        orderAtTheEndsOfDiagonals();
        samplesAtTheirEnds();
        othersStay();
        coefficientsOutsideAddNothing();
        coefficientsInsideAdd();
        sumsHaveNoBounds();
        greatestOfAll();
        quotientsAtTheHalf();
        exactAtItsEnds();
        errorAtItsEnds();
        Checks.end();
    }
}
