/**
 * A block of eight by eight samples as a sum of waves, by whole numbers alone.
 * Every grid is held row by row: (v, u) or (y, x) stands at v * 8 + u or y * 8 + x.
 */
public final class WaveBlocks {
    public static final int NONE = -1;

    private static final int SIDE = 8;
    private static final int CELLS = 64;
    private static final int LEAST_COEFFICIENT = -32768;
    private static final int GREATEST_COEFFICIENT = 32767;
    private static final int GREATEST_STEP = 255;
    private static final int GREATEST_SAMPLE = 255;
    private static final int MIDDLE_SAMPLE = 128;
    private static final int FIRST_SHIFT = 11;
    private static final int SECOND_SHIFT = 17;

    /** K: a quarter of a turn of the cosine, times 8192. */
    private static final int[] QUARTER = {8192, 8035, 7568, 6811, 5793, 4551, 3135, 1598, 0};

    private static final int[] PLACE_OF_CELL = {
        0, 1, 5, 6, 14, 15, 27, 28,
        2, 4, 7, 13, 16, 26, 29, 42,
        3, 8, 12, 17, 25, 30, 41, 43,
        9, 11, 18, 24, 31, 40, 44, 53,
        10, 19, 23, 32, 39, 45, 52, 54,
        20, 22, 33, 38, 46, 51, 55, 60,
        21, 34, 37, 47, 50, 56, 59, 61,
        35, 36, 48, 49, 57, 58, 62, 63
    };

    private static final int[] CELL_OF_PLACE = {
        0, 1, 8, 16, 9, 2, 3, 10,
        17, 24, 32, 25, 18, 11, 4, 5,
        12, 19, 26, 33, 40, 48, 41, 34,
        27, 20, 13, 6, 7, 14, 21, 28,
        35, 42, 49, 56, 57, 50, 43, 36,
        29, 22, 15, 23, 30, 37, 44, 51,
        58, 59, 52, 45, 38, 31, 39, 46,
        53, 60, 61, 54, 47, 55, 62, 63
    };

    private final int[] coefficientGrid;
    private final int[] stepGrid;
    private final int[] sampleGrid;
    private final int[] keptGrid;

    /** P of BACK and FORWARD: made once, so that no call makes an array. */
    private final long[] halfwayGrid;

    public WaveBlocks() {
        coefficientGrid = new int[CELLS];
        stepGrid = new int[CELLS];
        sampleGrid = new int[CELLS];
        keptGrid = new int[CELLS];
        halfwayGrid = new long[CELLS];
        for (int cell = 0; cell < CELLS; cell++) {
            stepGrid[cell] = 1;
        }
    }

    public void put(int place, int value) throws IndexOutOfBoundsException, IllegalArgumentException {
        if (!isPlace(place)) {
            throw new IndexOutOfBoundsException("no such place");
        }
        if (value < LEAST_COEFFICIENT || value > GREATEST_COEFFICIENT) {
            throw new IllegalArgumentException("a coefficient is -32768 .. 32767");
        }
        coefficientGrid[CELL_OF_PLACE[place]] = value;
    }

    public void step(int place, int value) throws IndexOutOfBoundsException, IllegalArgumentException {
        if (!isPlace(place)) {
            throw new IndexOutOfBoundsException("no such place");
        }
        if (value < 1 || value > GREATEST_STEP) {
            throw new IllegalArgumentException("a step is 1 .. 255");
        }
        stepGrid[CELL_OF_PLACE[place]] = value;
    }

    public void steps(int base, int slope, int percent) throws IllegalArgumentException {
        if (base < 1 || base > 255 || slope < 0 || slope > 32 || percent < 1 || percent > 5000) {
            throw new IllegalArgumentException("base is 1 .. 255, slope 0 .. 32, percent 1 .. 5000");
        }
        for (int v = 0; v < SIDE; v++) {
            for (int u = 0; u < SIDE; u++) {
                int scaled = ((base + slope * (u + v)) * percent + 50) / 100;
                stepGrid[v * SIDE + u] = clamped(scaled, 1, GREATEST_STEP);
            }
        }
    }

    public void row(int y, long eight) throws IndexOutOfBoundsException {
        if (!isLine(y)) {
            throw new IndexOutOfBoundsException("no such row");
        }
        for (int x = 0; x < SIDE; x++) {
            sampleGrid[y * SIDE + x] = (int) (eight >>> (56 - 8 * x)) & 255;
        }
    }

    public long back(int n) throws IllegalArgumentException {
        int spread = spreadOf(n);
        if (spread == 0) {
            throw new IllegalArgumentException("a size is 1, 2, 4 or 8");
        }
        long greatest = backDown(n, spread);
        backAcross(n, spread);
        return greatest;
    }

    public int forward() {
        for (int v = 0; v < SIDE; v++) {
            forwardDown(v);
            for (int u = 0; u < SIDE; u++) {
                int cell = v * SIDE + u;
                coefficientGrid[cell] = nearest(forwardAcross(v, u), stepGrid[cell]);
            }
        }
        return countOfCoefficients();
    }

    public void keep() {
        for (int cell = 0; cell < CELLS; cell++) {
            keptGrid[cell] = sampleGrid[cell];
        }
    }

    public int error(int n) throws IllegalArgumentException {
        if (n < 1 || n > SIDE) {
            throw new IllegalArgumentException("n is 1 .. 8");
        }
        int sum = 0;
        for (int y = 0; y < n; y++) {
            for (int x = 0; x < n; x++) {
                int difference = sampleGrid[y * SIDE + x] - keptGrid[y * SIDE + x];
                sum += difference * difference;
            }
        }
        return sum;
    }

    public void clear() {
        for (int cell = 0; cell < CELLS; cell++) {
            coefficientGrid[cell] = 0;
        }
    }

    public int at(int place, int what) throws IndexOutOfBoundsException {
        if (!isPlace(place) || what < 0 || what > 3) {
            throw new IndexOutOfBoundsException("no such place, or no such what");
        }
        int cell = CELL_OF_PLACE[place];
        switch (what) {
            case 0:
                return coefficientGrid[cell];
            case 1:
                return stepGrid[cell];
            case 2:
                return cell >> 3;
            default:
                return cell & 7;
        }
    }

    public int order(int v, int u) {
        if (!isLine(v) || !isLine(u)) {
            return NONE;
        }
        return PLACE_OF_CELL[v * SIDE + u];
    }

    public long samples(int y) {
        if (!isLine(y)) {
            return 0L;
        }
        long eight = 0L;
        for (int x = 0; x < SIDE; x++) {
            eight = (eight << 8) | sampleGrid[y * SIDE + x];
        }
        return eight;
    }

    public int exact(int v, int u) throws IndexOutOfBoundsException {
        if (!isLine(v) || !isLine(u)) {
            throw new IndexOutOfBoundsException("no such place");
        }
        forwardDown(v);
        return forwardAcross(v, u);
    }

    public int wave(int n, int u, int x) throws IllegalArgumentException {
        int spread = spreadOf(n);
        if (spread == 0 || u < 0 || u >= n || x < 0 || x >= n) {
            throw new IllegalArgumentException("n is 1, 2, 4 or 8, u and x are 0 .. n - 1");
        }
        return waveAt(spread, u, x);
    }

    public int look(int which) {
        switch (which) {
            case 0:
                return countOfCoefficients();
            case 1:
                return lastPlace();
            case 2:
                return sumOf(stepGrid);
            case 3:
                return sumOf(sampleGrid);
            case 4:
                return sumOfMagnitudes();
            default:
                return NONE;
        }
    }

    private static boolean isPlace(int place) {
        return place >= 0 && place < CELLS;
    }

    private static boolean isLine(int line) {
        return line >= 0 && line < SIDE;
    }

    /** 8 / n for a size n, and 0 for what is no size: so nothing divides by n. */
    private static int spreadOf(int n) {
        switch (n) {
            case 1:
                return 8;
            case 2:
                return 4;
            case 4:
                return 2;
            case 8:
                return 1;
            default:
                return 0;
        }
    }

    private static int waveAt(int spread, int u, int x) {
        return u == 0 ? QUARTER[4] : cosine((2 * x + 1) * u * spread);
    }

    private static int cosine(int sixteenths) {
        int m = sixteenths & 31;
        if (m <= 8) {
            return QUARTER[m];
        }
        if (m <= 16) {
            return -QUARTER[16 - m];
        }
        if (m <= 24) {
            return -QUARTER[m - 16];
        }
        return QUARTER[32 - m];
    }

    private static long rounded(long value, int shift) {
        return (value + (1L << (shift - 1))) >> shift;
    }

    private static int clamped(long value, int least, int greatest) {
        if (value < least) {
            return least;
        }
        return value > greatest ? greatest : (int) value;
    }

    /** Divides magnitudes, since a half goes away from 0 on both sides. */
    private static int nearest(int value, int step) {
        if (step < 1) {
            return 0;
        }
        int magnitude = (2 * Math.abs(value) + step) / (2 * step);
        return value < 0 ? -magnitude : magnitude;
    }

    /** Fills P(y, u) of BACK and answers the greatest |P|. */
    private long backDown(int n, int spread) {
        long greatest = 0L;
        for (int y = 0; y < n; y++) {
            for (int u = 0; u < n; u++) {
                long sum = 0L;
                for (int v = 0; v < n; v++) {
                    int cell = v * SIDE + u;
                    sum += (long) waveAt(spread, v, y) * (coefficientGrid[cell] * stepGrid[cell]);
                }
                long halfway = rounded(sum, FIRST_SHIFT);
                halfwayGrid[y * SIDE + u] = halfway;
                greatest = Math.max(greatest, Math.abs(halfway));
            }
        }
        return greatest;
    }

    private void backAcross(int n, int spread) {
        for (int y = 0; y < n; y++) {
            for (int x = 0; x < n; x++) {
                long sum = 0L;
                for (int u = 0; u < n; u++) {
                    sum += waveAt(spread, u, x) * halfwayGrid[y * SIDE + u];
                }
                long sample = rounded(sum, SECOND_SHIFT) + MIDDLE_SAMPLE;
                sampleGrid[y * SIDE + x] = clamped(sample, 0, GREATEST_SAMPLE);
            }
        }
    }

    /** Fills P(v, x) of FORWARD for one v, which is all that E(v, u) needs. */
    private void forwardDown(int v) {
        for (int x = 0; x < SIDE; x++) {
            long sum = 0L;
            for (int y = 0; y < SIDE; y++) {
                sum += waveAt(1, v, y) * (sampleGrid[y * SIDE + x] - MIDDLE_SAMPLE);
            }
            halfwayGrid[v * SIDE + x] = rounded(sum, FIRST_SHIFT);
        }
    }

    /** E(v, u), when forwardDown(v) has been done. */
    private int forwardAcross(int v, int u) {
        long sum = 0L;
        for (int x = 0; x < SIDE; x++) {
            sum += waveAt(1, u, x) * halfwayGrid[v * SIDE + x];
        }
        return (int) rounded(sum, SECOND_SHIFT);
    }

    private int countOfCoefficients() {
        int count = 0;
        for (int cell = 0; cell < CELLS; cell++) {
            if (coefficientGrid[cell] != 0) {
                count++;
            }
        }
        return count;
    }

    private int lastPlace() {
        for (int place = CELLS - 1; place >= 0; place--) {
            if (coefficientGrid[CELL_OF_PLACE[place]] != 0) {
                return place;
            }
        }
        return NONE;
    }

    private int sumOfMagnitudes() {
        int sum = 0;
        for (int cell = 0; cell < CELLS; cell++) {
            sum += Math.abs(coefficientGrid[cell]);
        }
        return sum;
    }

    private static int sumOf(int[] grid) {
        int sum = 0;
        for (int value : grid) {
            sum += value;
        }
        return sum;
    }
}
