import java.math.BigInteger;
import java.util.ArrayList;
import java.util.List;

/** The document's terms once more, by other means: real cosines, sorted places, numbers without bounds. */
final class Model {
    final int[][] coefficients = new int[8][8];
    final int[][] steps = new int[8][8];
    int[][] samples = new int[8][8];
    int[][] kept = new int[8][8];
    private final List<int[]> places = new ArrayList<>();

    Model() {
        for (int v = 0; v < 8; v++) {
            for (int u = 0; u < 8; u++) {
                steps[v][u] = 1;
                places.add(new int[] {v, u});
            }
        }
        places.sort((a, b) -> {
            int sumA = a[0] + a[1];
            int sumB = b[0] + b[1];
            if (sumA != sumB) {
                return Integer.compare(sumA, sumB);
            }
            return sumA % 2 == 1 ? Integer.compare(b[1], a[1]) : Integer.compare(b[0], a[0]);
        });
    }

    private static IndexOutOfBoundsException outside() {
        return new IndexOutOfBoundsException();
    }

    private static IllegalArgumentException illegal() {
        return new IllegalArgumentException();
    }

    private int[] place(int place) {
        if (place < 0 || place > 63) {
            throw outside();
        }
        return places.get(place);
    }

    private static int between(int value, int least, int greatest) {
        if (value < least || value > greatest) {
            throw illegal();
        }
        return value;
    }

    private static boolean inside(int a, int n) {
        return a >= 0 && a < n;
    }

    private static boolean isSize(int n) {
        return n == 1 || n == 2 || n == 4 || n == 8;
    }

    static long waveOf(int n, int u, int x) {
        double angle = u == 0 ? Math.PI / 4 : Math.PI * (2 * x + 1) * u / (2.0 * n);
        double value = 8192 * Math.cos(angle);
        return value < 0 ? -Math.round(-value) : Math.round(value);
    }

    private static BigInteger round(BigInteger value, int shift) {
        BigInteger unit = BigInteger.TWO.pow(shift);
        BigInteger[] parts = value.add(unit.divide(BigInteger.TWO)).divideAndRemainder(unit);
        return parts[1].signum() < 0 ? parts[0].subtract(BigInteger.ONE) : parts[0];
    }

    private static BigInteger big(long value) {
        return BigInteger.valueOf(value);
    }

    void put(int place, int value) {
        int[] p = place(place);
        coefficients[p[0]][p[1]] = between(value, -32768, 32767);
    }

    void step(int place, int value) {
        int[] p = place(place);
        steps[p[0]][p[1]] = between(value, 1, 255);
    }

    void steps(int base, int slope, int percent) {
        between(base, 1, 255);
        between(slope, 0, 32);
        between(percent, 1, 5000);
        for (int v = 0; v < 8; v++) {
            for (int u = 0; u < 8; u++) {
                long step = Math.floorDiv((long) (base + slope * (u + v)) * percent + 50, 100L);
                steps[v][u] = (int) Math.min(255, Math.max(1, step));
            }
        }
    }

    void row(int y, long eight) {
        if (!inside(y, 8)) {
            throw outside();
        }
        BigInteger rest = new BigInteger(Long.toUnsignedString(eight));
        for (int x = 7; x >= 0; x--) {
            samples[y][x] = rest.mod(big(256)).intValue();
            rest = rest.divide(big(256));
        }
    }

    long back(int n) {
        if (!isSize(n)) {
            throw illegal();
        }
        BigInteger greatest = BigInteger.ZERO;
        BigInteger[][] p = new BigInteger[n][n];
        for (int y = 0; y < n; y++) {
            for (int u = 0; u < n; u++) {
                BigInteger sum = BigInteger.ZERO;
                for (int v = 0; v < n; v++) {
                    sum = sum.add(big(waveOf(n, v, y)).multiply(big(coefficients[v][u])).multiply(big(steps[v][u])));
                }
                p[y][u] = round(sum, 11);
                greatest = greatest.max(p[y][u].abs());
            }
        }
        for (int y = 0; y < n; y++) {
            for (int x = 0; x < n; x++) {
                BigInteger sum = BigInteger.ZERO;
                for (int u = 0; u < n; u++) {
                    sum = sum.add(big(waveOf(n, u, x)).multiply(p[y][u]));
                }
                BigInteger s = round(sum, 17).add(big(128));
                samples[y][x] = s.max(BigInteger.ZERO).min(big(255)).intValueExact();
            }
        }
        return greatest.longValueExact();
    }

    int forward() {
        int count = 0;
        for (int v = 0; v < 8; v++) {
            for (int u = 0; u < 8; u++) {
                int e = exact(v, u);
                int c = Math.abs(e) / steps[v][u];
                int rest = Math.abs(e) % steps[v][u];
                if (rest * 2 >= steps[v][u]) {
                    c++;
                }
                coefficients[v][u] = Integer.signum(e) * c;
                if (c != 0) {
                    count++;
                }
            }
        }
        return count;
    }

    void keep() {
        for (int y = 0; y < 8; y++) {
            kept[y] = samples[y].clone();
        }
    }

    int error(int n) {
        between(n, 1, 8);
        int sum = 0;
        for (int y = 0; y < n; y++) {
            for (int x = 0; x < n; x++) {
                sum += (samples[y][x] - kept[y][x]) * (samples[y][x] - kept[y][x]);
            }
        }
        return sum;
    }

    void clear() {
        for (int[] line : coefficients) {
            java.util.Arrays.fill(line, 0);
        }
    }

    int at(int place, int what) {
        int[] p = place(place);
        return switch (what) {
            case 0 -> coefficients[p[0]][p[1]];
            case 1 -> steps[p[0]][p[1]];
            case 2 -> p[0];
            case 3 -> p[1];
            default -> throw outside();
        };
    }

    int order(int v, int u) {
        for (int place = 0; place < 64; place++) {
            if (places.get(place)[0] == v && places.get(place)[1] == u) {
                return place;
            }
        }
        return -1;
    }

    long samples(int y) {
        if (!inside(y, 8)) {
            return 0;
        }
        BigInteger eight = BigInteger.ZERO;
        for (int sample : samples[y]) {
            eight = eight.multiply(big(256)).add(big(sample));
        }
        return eight.longValue();
    }

    int exact(int v, int u) {
        if (!inside(v, 8) || !inside(u, 8)) {
            throw outside();
        }
        BigInteger outer = BigInteger.ZERO;
        for (int x = 0; x < 8; x++) {
            BigInteger inner = BigInteger.ZERO;
            for (int y = 0; y < 8; y++) {
                inner = inner.add(big(waveOf(8, v, y) * (samples[y][x] - 128)));
            }
            outer = outer.add(big(waveOf(8, u, x)).multiply(round(inner, 11)));
        }
        return round(outer, 17).intValueExact();
    }

    int wave(int n, int u, int x) {
        if (!isSize(n) || !inside(u, n) || !inside(x, n)) {
            throw illegal();
        }
        return (int) waveOf(n, u, x);
    }

    int look(int which) {
        int count = 0;
        int last = -1;
        int stepSum = 0;
        int sampleSum = 0;
        int magnitudes = 0;
        for (int place = 0; place < 64; place++) {
            int[] p = places.get(place);
            int c = coefficients[p[0]][p[1]];
            count += c == 0 ? 0 : 1;
            last = c == 0 ? last : place;
            stepSum += steps[p[0]][p[1]];
            sampleSum += samples[p[0]][p[1]];
            magnitudes += Math.abs(c);
        }
        int[] answers = {count, last, stepSum, sampleSum, magnitudes};
        return inside(which, 5) ? answers[which] : -1;
    }
}
