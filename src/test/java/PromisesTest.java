/**
 * Written-out answers, promise by promise: ordinary inputs, edges, wrong inputs.
 * The numbers were reckoned outside of Java, from the document's terms alone.
 */
public final class PromisesTest {
    private static final int LEAST = Integer.MIN_VALUE;
    private static final int MOST = Integer.MAX_VALUE;

    private static final int[][] ORDER = {
        {0, 1, 5, 6, 14, 15, 27, 28},
        {2, 4, 7, 13, 16, 26, 29, 42},
        {3, 8, 12, 17, 25, 30, 41, 43},
        {9, 11, 18, 24, 31, 40, 44, 53},
        {10, 19, 23, 32, 39, 45, 52, 54},
        {20, 22, 33, 38, 46, 51, 55, 60},
        {21, 34, 37, 47, 50, 56, 59, 61},
        {35, 36, 48, 49, 57, 58, 62, 63},
    };

    /** The sample (y, x) is y * 37 + x * x * 11 + y * x * 5, modulo 256. */
    private static final long[] PICTURE = {
        0x000B2C63B0138C1BL, 0x25355B97E951CF63L, 0x4A5F8ACB228F12ABL, 0x6F89B9FF5BCD55F3L,
        0x94B3E833940B983BL, 0xB9DD1767CD49DB83L, 0xDE07469B06871ECBL, 0x033175CF3FC56113L,
    };

    private static final int[][] PICTURE_EXACT = {
        {-102, -46, -78, -51, 56, 58, -20, -28},
        {-39, -70, -86, -42, 16, -30, -71, 90},
        {-185, -102, -119, 74, 17, 70, -23, -3},
        {-22, 37, 100, 100, 21, -36, -177, 200},
        {-32, 25, -101, -44, -96, 9, 7, 38},
        {-6, -20, 76, -36, 107, 19, 145, -158},
        {-27, 15, -23, 17, -42, -39, -73, -40},
        {-120, 90, 40, -46, -10, 19, 89, 33},
    };

    /** The picture's coefficients with steps(16, 3, 75), by the order. */
    private static final int[] PICTURE_COEFFICIENTS = {
        -9, -3, -3, -11, -4, -5, -3, -5, -5, -1, -2, 2, -6, -2, 3, 3,
        1, 3, 4, 1, 0, -1, -1, -4, 4, 1, -1, -1, -1, -3, 3, 1,
        -2, 3, 1, -4, 3, -1, -1, -3, -1, -1, 3, 0, -6, 0, 3, 1,
        1, -1, -1, 1, 0, 6, 1, 4, -1, 0, 0, -2, -4, -1, 2, 1,
    };

    private static WaveBlocks flat(int sample) {
        WaveBlocks x = new WaveBlocks();
        for (int y = 0; y < 8; y++) {
            x.row(y, sample * 0x0101010101010101L);
        }
        return x;
    }

    private static WaveBlocks picture() {
        WaveBlocks x = new WaveBlocks();
        for (int y = 0; y < 8; y++) {
            x.row(y, PICTURE[y]);
        }
        return x;
    }

    private static void rows(String what, WaveBlocks x, long... rows) {
        for (int y = 0; y < 8; y++) {
            Checks.due(what + ", samples(" + y + ")", x.samples(y), rows[y]);
        }
    }

    private static void newObject() {
        WaveBlocks x = new WaveBlocks();
        for (int place = 0; place < 64; place++) {
            Checks.due("new, coefficient of " + place, x.at(place, 0), 0);
            Checks.due("new, step of " + place, x.at(place, 1), 1);
        }
        rows("new", x, 0, 0, 0, 0, 0, 0, 0, 0);
        Checks.due("new, error(8)", x.error(8), 0);
        x.row(7, 1);
        Checks.due("new, error(8) of one sample against kept zeros", x.error(8), 1);
        WaveBlocks other = new WaveBlocks();
        Checks.due("objects share no samples", other.look(3), 0);
        x.put(0, 5);
        x.step(0, 5);
        Checks.due("objects share no coefficients", other.look(4), 0);
        Checks.due("objects share no steps", other.look(2), 64);
    }

    private static void put() {
        WaveBlocks x = new WaveBlocks();
        for (int place = 0; place < 64; place++) {
            x.put(place, place * 3 - 90);
        }
        for (int place = 0; place < 64; place++) {
            Checks.due("put, then at(" + place + ", 0)", x.at(place, 0), place * 3 - 90);
        }
        x.put(63, 32767);
        x.put(0, -32768);
        Checks.due("the greatest", x.at(63, 0), 32767);
        Checks.due("the least", x.at(0, 0), -32768);
        int before = x.look(4);
        for (int place : new int[] {-1, 64, LEAST, MOST}) {
            Checks.refused("put(" + place + ", 1)", () -> x.put(place, 1), Checks.OUTSIDE);
            Checks.refused("put(" + place + ", 32768)", () -> x.put(place, 32768), Checks.OUTSIDE);
        }
        for (int value : new int[] {-32769, 32768, LEAST, MOST}) {
            Checks.refused("put(0, " + value + ")", () -> x.put(0, value), Checks.ILLEGAL);
        }
        Checks.due("what throws changes nothing", x.look(4), before);
        Checks.due("put leaves the steps", x.look(2), 64);
    }

    private static void step() {
        WaveBlocks x = new WaveBlocks();
        for (int place = 0; place < 64; place++) {
            x.step(place, place * 4 + 1);
        }
        for (int place = 0; place < 64; place++) {
            Checks.due("step, then at(" + place + ", 1)", x.at(place, 1), place * 4 + 1);
        }
        x.step(63, 255);
        x.step(0, 1);
        Checks.due("the greatest step", x.at(63, 1), 255);
        Checks.due("the least step", x.at(0, 1), 1);
        int before = x.look(2);
        for (int place : new int[] {-1, 64, LEAST, MOST}) {
            Checks.refused("step(" + place + ", 1)", () -> x.step(place, 1), Checks.OUTSIDE);
            Checks.refused("step(" + place + ", 0)", () -> x.step(place, 0), Checks.OUTSIDE);
        }
        for (int value : new int[] {-1, 0, 256, LEAST, MOST}) {
            Checks.refused("step(0, " + value + ")", () -> x.step(0, value), Checks.ILLEGAL);
        }
        Checks.due("what throws changes no step", x.look(2), before);
        Checks.due("step leaves the coefficients", x.look(0), 0);
    }

    private static void steps() {
        WaveBlocks x = new WaveBlocks();
        x.steps(16, 3, 75);
        int[] bySum = {12, 14, 17, 19, 21, 23, 26, 28, 30, 32, 35, 37, 39, 41, 44};
        for (int v = 0; v < 8; v++) {
            for (int u = 0; u < 8; u++) {
                Checks.due("steps(16, 3, 75) at (" + v + ", " + u + ")", x.at(ORDER[v][u], 1), bySum[v + u]);
            }
        }
        Checks.due("the sum of steps(16, 3, 75)", x.look(2), 1784);
        x.steps(1, 0, 1);
        Checks.due("at least 1", x.look(2), 64);
        x.steps(255, 32, 5000);
        Checks.due("at most 255", x.look(2), 64 * 255);
        x.steps(1, 0, 149);
        Checks.due("149 and 50 by 100", x.at(0, 1), 1);
        x.steps(1, 0, 150);
        Checks.due("150 and 50 by 100", x.at(0, 1), 2);
        x.steps(255, 0, 100);
        int[][] wrong = {
            {0, 1, 1}, {256, 0, 1}, {-1, 0, 1}, {LEAST, 0, 1}, {MOST, 0, 1},
            {1, -1, 1}, {1, 33, 1}, {1, LEAST, 1}, {1, MOST, 1},
            {1, 1, 0}, {1, 1, 5001}, {1, 1, -1}, {1, 1, LEAST}, {1, 1, MOST},
        };
        for (int[] w : wrong) {
            Checks.refused("steps(" + w[0] + ", " + w[1] + ", " + w[2] + ")", () -> x.steps(w[0], w[1], w[2]), Checks.ILLEGAL);
        }
        Checks.due("wrong steps change nothing", x.look(2), 64 * 255);
    }

    private static void row() {
        WaveBlocks x = new WaveBlocks();
        x.row(0, 0x80FF017F00FE1122L);
        x.row(7, -1L);
        rows("row", x, 0x80FF017F00FE1122L, 0, 0, 0, 0, 0, 0, -1L);
        Checks.due("row, bytes without signs", x.look(3), 0x80 + 0xFF + 1 + 0x7F + 0xFE + 0x11 + 0x22 + 8 * 255);
        for (int y : new int[] {-1, 8, LEAST, MOST, 1 << 29}) {
            Checks.refused("row(" + y + ", 1)", () -> x.row(y, 1L), Checks.OUTSIDE);
        }
        rows("after wrong rows", x, 0x80FF017F00FE1122L, 0, 0, 0, 0, 0, 0, -1L);
        x.row(0, 0L);
        x.row(0, 1L << 56);
        x.keep();
        x.row(0, 0L);
        Checks.due("the first sample is in the highest byte", x.error(1), 1);
    }

    private static void back() {
        int[] sizes = {1, 2, 4, 8};
        int[][] levels = {{1, 3, 128}, {4, 11, 128}, {-4, 11, 128}, {-5, 14, 127}, {8, 23, 129}, {80, 226, 138},
            {32767, 92685, 255}, {-32768, 92688, 0}};
        for (int[] level : levels) {
            for (int n : sizes) {
                WaveBlocks x = new WaveBlocks();
                x.put(0, level[0]);
                Checks.due("back(" + n + ") of " + level[0], x.back(n), level[1]);
                Checks.due("its samples are below n alone", x.look(3), n * n * level[2]);
            }
        }
        WaveBlocks wide = new WaveBlocks();
        wide.steps(255, 0, 100);
        for (int place = 0; place < 64; place++) {
            wide.put(place, -32768);
        }
        long[] greatest = {23635440L, 47270880L, 90939120L, 176598720L};
        for (int i = 0; i < 4; i++) {
            Checks.due("back(" + sizes[i] + ") of the least everywhere", wide.back(sizes[i]), greatest[i]);
        }
        rows("the least everywhere", wide,
                0x00FF00FF00FF0000L, 0xFF00FF00FF00FFFFL, 0x00FF00FF00FF0000L, 0xFF00FF00FF00FFFFL,
                0x00FF00FF00FF0000L, 0xFF00FF00FF00FFFFL, 0x00FF00FF00FF0000L, 0x00FF00FF00FF0000L);
        for (int n : new int[] {-1, 0, 3, 5, 6, 7, 9, 16, LEAST, MOST}) {
            Checks.refused("back(" + n + ")", () -> wide.back(n), Checks.ILLEGAL);
        }
        Checks.due("wrong sizes change nothing", wide.samples(1), 0xFF00FF00FF00FFFFL);
        Checks.due("back of nothing", new WaveBlocks().back(8), 0);
    }

    private static void backOfPicture() {
        WaveBlocks x = picture();
        x.steps(16, 3, 75);
        x.forward();
        Checks.due("back(1) of the picture", x.back(1), 305);
        rows("back(1)", x, 0x730B2C63B0138C1BL, PICTURE[1], PICTURE[2], PICTURE[3], PICTURE[4], PICTURE[5], PICTURE[6], PICTURE[7]);
        Checks.due("back(2) of the picture", x.back(2), 424);
        rows("back(2)", x, 0x607B2C63B0138C1BL, 0x7B745B97E951CF63L,
                PICTURE[2], PICTURE[3], PICTURE[4], PICTURE[5], PICTURE[6], PICTURE[7]);
        Checks.due("back(4) of the picture", x.back(4), 1019);
        rows("back(4)", x, 0x0F678750B0138C1BL, 0x60C66F93E951CF63L, 0xBE746B8A228F12ABL, 0x476E7B5D5BCD55F3L,
                PICTURE[4], PICTURE[5], PICTURE[6], PICTURE[7]);
        Checks.due("back(8) of the picture", x.back(8), 1470);
        rows("back(8)", x, 0x00062576BB00920CL, 0x1F315CA1E248CD63L, 0x516085CC2B960FA5L, 0x6785BCFD44D05AF9L,
                0x8BB8E330A7038E40L, 0xC3DB186ECA49DF77L, 0xE2014D98038B2BCDL, 0x002E76D438BE5614L);
        Checks.due("back leaves the coefficients", x.look(4), 156);
        Checks.due("back leaves the steps", x.look(2), 1784);
    }

    private static void forward() {
        WaveBlocks x = picture();
        x.steps(16, 3, 75);
        Checks.due("forward() of the picture", x.forward(), 58);
        for (int place = 0; place < 64; place++) {
            Checks.due("the picture's coefficient of " + place, x.at(place, 0), PICTURE_COEFFICIENTS[place]);
        }
        rows("forward leaves the samples", x, PICTURE);
        WaveBlocks grey = flat(128);
        grey.put(5, 7);
        Checks.due("forward() of grey", grey.forward(), 0);
        Checks.due("forward() forgets the former ones", grey.look(4), 0);
        int[][] halves = {{129, 16, 1}, {127, 16, -1}, {129, 17, 0}, {127, 17, 0}, {129, 15, 1}, {127, 15, -1},
            {129, 3, 3}, {127, 3, -3}, {255, 1, 1016}, {0, 1, -1024}, {0, 255, -4}, {255, 255, 4}};
        for (int[] h : halves) {
            WaveBlocks one = flat(h[0]);
            one.step(0, h[1]);
            Checks.due("forward() of " + h[0] + " by " + h[1], one.forward(), h[2] == 0 ? 0 : 1);
            Checks.due("its coefficient", one.at(0, 0), h[2]);
        }
    }

    private static void keepAndError() {
        WaveBlocks x = picture();
        x.keep();
        Checks.due("kept, error(8)", x.error(8), 0);
        x.steps(16, 3, 75);
        x.forward();
        x.back(8);
        int[] errors = {0, 77, 202, 757, 2038, 2765, 3259, 3993};
        for (int n = 1; n <= 8; n++) {
            Checks.due("error(" + n + ")", x.error(n), errors[n - 1]);
        }
        rows("keep is no way back", x, 0x00062576BB00920CL, 0x1F315CA1E248CD63L, 0x516085CC2B960FA5L, 0x6785BCFD44D05AF9L,
                0x8BB8E330A7038E40L, 0xC3DB186ECA49DF77L, 0xE2014D98038B2BCDL, 0x002E76D438BE5614L);
        x.keep();
        Checks.due("kept again, error(8)", x.error(8), 0);
        WaveBlocks white = flat(255);
        Checks.due("the greatest error", white.error(8), 64 * 255 * 255);
        Checks.due("the greatest error of 3", white.error(3), 9 * 255 * 255);
        for (int n : new int[] {-1, 0, 9, LEAST, MOST}) {
            Checks.refused("error(" + n + ")", () -> white.error(n), Checks.ILLEGAL);
        }
    }

    private static void clear() {
        WaveBlocks x = picture();
        x.keep();
        x.steps(16, 3, 75);
        x.forward();
        x.clear();
        for (int place = 0; place < 64; place++) {
            Checks.due("cleared, coefficient of " + place, x.at(place, 0), 0);
        }
        Checks.due("clear leaves the steps", x.look(2), 1784);
        rows("clear leaves the samples", x, PICTURE);
        Checks.due("clear leaves the kept samples", x.error(8), 0);
    }

    private static void atAndOrder() {
        WaveBlocks x = new WaveBlocks();
        for (int v = 0; v < 8; v++) {
            for (int u = 0; u < 8; u++) {
                Checks.due("order(" + v + ", " + u + ")", x.order(v, u), ORDER[v][u]);
                Checks.due("v of " + ORDER[v][u], x.at(ORDER[v][u], 2), v);
                Checks.due("u of " + ORDER[v][u], x.at(ORDER[v][u], 3), u);
            }
        }
        x.put(1, -7);
        x.step(1, 9);
        Checks.due("at(1, 0)", x.at(1, 0), -7);
        Checks.due("at(1, 1)", x.at(1, 1), 9);
        for (int wrong : new int[] {-1, 64, LEAST, MOST}) {
            for (int what = -1; what <= 4; what++) {
                int w = what;
                Checks.due("at(" + wrong + ", " + w + ")", Checks.answer(() -> (long) x.at(wrong, w)), Checks.OUTSIDE);
            }
        }
        for (int wrong : new int[] {-1, 4, LEAST, MOST}) {
            Checks.due("at(0, " + wrong + ")", Checks.answer(() -> (long) x.at(0, wrong)), Checks.OUTSIDE);
        }
        for (int wrong : new int[] {-1, 8, LEAST, MOST, 1 << 29}) {
            Checks.due("order(" + wrong + ", 0)", x.order(wrong, 0), -1);
            Checks.due("order(0, " + wrong + ")", x.order(0, wrong), -1);
            Checks.due("order(7, " + wrong + ")", x.order(7, wrong), -1);
        }
    }

    private static void samples() {
        WaveBlocks x = picture();
        rows("the picture", x, PICTURE);
        WaveBlocks white = flat(255);
        for (int wrong : new int[] {-1, 8, LEAST, MOST, 1 << 29}) {
            Checks.due("samples(" + wrong + ")", white.samples(wrong), 0);
        }
    }

    private static void exact() {
        WaveBlocks x = picture();
        x.steps(200, 0, 100);
        for (int v = 0; v < 8; v++) {
            for (int u = 0; u < 8; u++) {
                Checks.due("exact(" + v + ", " + u + ")", x.exact(v, u), PICTURE_EXACT[v][u]);
            }
        }
        Checks.due("exact leaves the coefficients", x.look(0), 0);
        rows("exact leaves the samples", x, PICTURE);
        Checks.due("exact of black", new WaveBlocks().exact(0, 0), -1024);
        Checks.due("exact of white", flat(255).exact(0, 0), 1016);
        Checks.due("exact of grey", flat(128).exact(7, 7), 0);
        for (int wrong : new int[] {-1, 8, LEAST, MOST, 1 << 29}) {
            Checks.due("exact(" + wrong + ", 0)", Checks.answer(() -> (long) x.exact(wrong, 0)), Checks.OUTSIDE);
            Checks.due("exact(0, " + wrong + ")", Checks.answer(() -> (long) x.exact(0, wrong)), Checks.OUTSIDE);
        }
    }

    private static void wave() {
        int[][][] waves = {
            {{5793}},
            {{5793, 5793}, {5793, -5793}},
            {{5793, 5793, 5793, 5793}, {7568, 3135, -3135, -7568}, {5793, -5793, -5793, 5793}, {3135, -7568, 7568, -3135}},
            {{5793, 5793, 5793, 5793, 5793, 5793, 5793, 5793}, {8035, 6811, 4551, 1598, -1598, -4551, -6811, -8035},
                {7568, 3135, -3135, -7568, -7568, -3135, 3135, 7568}, {6811, -1598, -8035, -4551, 4551, 8035, 1598, -6811},
                {5793, -5793, -5793, 5793, 5793, -5793, -5793, 5793}, {4551, -8035, 1598, 6811, -6811, -1598, 8035, -4551},
                {3135, -7568, 7568, -3135, -3135, 7568, -7568, 3135}, {1598, -4551, 6811, -8035, 8035, -6811, 4551, -1598}},
        };
        WaveBlocks b = new WaveBlocks();
        for (int[][] table : waves) {
            int n = table.length;
            for (int u = 0; u < n; u++) {
                for (int x = 0; x < n; x++) {
                    Checks.due("wave(" + n + ", " + u + ", " + x + ")", b.wave(n, u, x), table[u][x]);
                }
            }
            for (int wrong : new int[] {-1, n, n + 1, LEAST, MOST}) {
                Checks.due("wave(" + n + ", " + wrong + ", 0)", Checks.answer(() -> (long) b.wave(n, wrong, 0)), Checks.ILLEGAL);
                Checks.due("wave(" + n + ", 0, " + wrong + ")", Checks.answer(() -> (long) b.wave(n, 0, wrong)), Checks.ILLEGAL);
            }
        }
        for (int n : new int[] {-1, 0, 3, 5, 6, 7, 9, 16, LEAST, MOST}) {
            Checks.due("wave(" + n + ", 0, 0)", Checks.answer(() -> (long) b.wave(n, 0, 0)), Checks.ILLEGAL);
        }
    }

    private static void look() {
        WaveBlocks x = new WaveBlocks();
        int[] fresh = {0, -1, 64, 0, 0};
        for (int which = 0; which < 5; which++) {
            Checks.due("new, look(" + which + ")", x.look(which), fresh[which]);
        }
        x.put(0, 5);
        Checks.due("one at the place 0", x.look(1), 0);
        x.put(35, -7);
        x.put(28, 2);
        Checks.due("look(0)", x.look(0), 3);
        Checks.due("the last is told by the order, not by rows", x.look(1), 35);
        Checks.due("look(4)", x.look(4), 14);
        x.put(35, 0);
        Checks.due("the last, when one is gone", x.look(1), 28);
        x.put(63, 1);
        Checks.due("the very last", x.look(1), 63);
        for (int place = 0; place < 64; place++) {
            x.put(place, -32768);
            x.step(place, 255);
        }
        Checks.due("look(0) at most", x.look(0), 64);
        Checks.due("look(2) at most", x.look(2), 64 * 255);
        Checks.due("look(4) at most", x.look(4), 64 * 32768);
        Checks.due("look(3) of white", flat(255).look(3), 64 * 255);
        Checks.due("look(3) of the picture", picture().look(3), 7376);
        for (int wrong : new int[] {-1, 5, 6, LEAST, MOST}) {
            Checks.due("look(" + wrong + ")", x.look(wrong), -1);
        }
    }

    public static void main(String[] args) {
        newObject();
        put();
        step();
        steps();
        row();
        back();
        backOfPicture();
        forward();
        keepAndError();
        clear();
        atAndOrder();
        samples();
        exact();
        wave();
        look();
        Checks.end();
    }
}
