import java.util.Random;

/** Long walks of calls, right and wrong ones, each answer against the model's; then all of the state. */
public final class WalkTest {
    private static final int WALKS = 200;
    /** With the 149 calls of the last look over the state, below the 512 that the document allows. */
    private static final int CALLS = 360;

    private static final int[] EDGES = {
        Integer.MIN_VALUE, Integer.MIN_VALUE + 1, -32769, -32768, -2, -1, 0, 1, 2, 3, 4, 5, 7, 8, 9, 16, 32, 33, 63, 64, 65,
        255, 256, 5000, 5001, 32767, 32768, 65536, 1 << 29, 1 << 30, Integer.MAX_VALUE - 1, Integer.MAX_VALUE
    };

    private static Random random;
    private static WaveBlocks block;
    private static Model model;

    /** Mostly a number of the range, sometimes one of its ends, sometimes any edge. */
    private static int some(int least, int greatest) {
        int kind = random.nextInt(40);
        if (kind == 0) {
            return EDGES[random.nextInt(EDGES.length)];
        }
        if (kind == 1) {
            return least - 1;
        }
        if (kind == 2) {
            return greatest + 1;
        }
        if (kind <= 5) {
            return kind == 3 ? least : greatest;
        }
        return least + random.nextInt(greatest - least + 1);
    }

    private static int someSize() {
        return random.nextInt(10) == 0 ? some(0, 9) : 1 << random.nextInt(4);
    }

    private static int someCoefficient() {
        return random.nextBoolean() ? some(-32768, 32767) : some(-60, 60);
    }

    private static long someRow() {
        int kind = random.nextInt(6);
        if (kind == 0) {
            return -1L;
        }
        if (kind == 1) {
            return 0L;
        }
        return kind == 2 ? random.nextInt(256) * 0x0101010101010101L : random.nextLong();
    }

    private static void same(String what, Checks.Call ours, Checks.Call theirs) {
        Checks.due(what, Checks.answer(ours), Checks.answer(theirs));
    }

    private static void same(String what, Checks.Act ours, Checks.Act theirs) {
        Checks.due(what, Checks.answer(ours), Checks.answer(theirs));
    }

    private static void change(String at) {
        int place = some(0, 63);
        int y = some(0, 7);
        int n = someSize();
        long eight = someRow();
        switch (random.nextInt(10)) {
            case 0, 1 -> {
                int value = someCoefficient();
                same(at + "put(" + place + ", " + value + ")", () -> block.put(place, value), () -> model.put(place, value));
            }
            case 2 -> {
                int value = some(1, 255);
                same(at + "step(" + place + ", " + value + ")", () -> block.step(place, value), () -> model.step(place, value));
            }
            case 3 -> {
                int base = some(1, 255);
                int slope = some(0, 32);
                int percent = random.nextBoolean() ? some(1, 5000) : some(1, 100);
                same(at + "steps(" + base + ", " + slope + ", " + percent + ")",
                        () -> block.steps(base, slope, percent), () -> model.steps(base, slope, percent));
            }
            case 4, 5 -> same(at + "row(" + y + ", " + eight + ")", () -> block.row(y, eight), () -> model.row(y, eight));
            case 6, 7 -> same(at + "back(" + n + ")", () -> block.back(n), () -> model.back(n));
            case 8 -> same(at + "forward()", () -> (long) block.forward(), () -> (long) model.forward());
            default -> {
                if (random.nextInt(4) == 0) {
                    same(at + "clear()", () -> block.clear(), () -> model.clear());
                } else {
                    same(at + "keep()", () -> block.keep(), () -> model.keep());
                }
            }
        }
    }

    private static void ask(String at) {
        int place = some(0, 63);
        int a = some(0, 7);
        int b = some(0, 7);
        int n = random.nextBoolean() ? some(1, 8) : someSize();
        switch (random.nextInt(7)) {
            case 0 -> same(at + "error(" + n + ")", () -> (long) block.error(n), () -> (long) model.error(n));
            case 1 -> {
                int what = some(0, 3);
                same(at + "at(" + place + ", " + what + ")", () -> (long) block.at(place, what), () -> (long) model.at(place, what));
            }
            case 2 -> same(at + "order(" + a + ", " + b + ")", () -> (long) block.order(a, b), () -> (long) model.order(a, b));
            case 3 -> same(at + "samples(" + a + ")", () -> block.samples(a), () -> model.samples(a));
            case 4 -> same(at + "exact(" + a + ", " + b + ")", () -> (long) block.exact(a, b), () -> (long) model.exact(a, b));
            case 5 -> same(at + "wave(" + n + ", " + a + ", " + b + ")",
                    () -> (long) block.wave(n, a, b), () -> (long) model.wave(n, a, b));
            default -> {
                int which = some(0, 4);
                same(at + "look(" + which + ")", () -> (long) block.look(which), () -> (long) model.look(which));
            }
        }
    }

    private static void wholeState(String at) {
        for (int i = 0; i < 64; i++) {
            int place = i;
            same(at + "at(" + place + ", 0)", () -> (long) block.at(place, 0), () -> (long) model.at(place, 0));
            same(at + "at(" + place + ", 1)", () -> (long) block.at(place, 1), () -> (long) model.at(place, 1));
        }
        for (int i = 0; i < 8; i++) {
            int y = i;
            same(at + "samples(" + y + ")", () -> block.samples(y), () -> model.samples(y));
            same(at + "error(" + (y + 1) + ")", () -> (long) block.error(y + 1), () -> (long) model.error(y + 1));
        }
        for (int i = 0; i < 5; i++) {
            int which = i;
            same(at + "look(" + which + ")", () -> (long) block.look(which), () -> (long) model.look(which));
        }
    }

    public static void main(String[] args) {
        for (int walk = 0; walk < WALKS; walk++) {
            random = new Random(walk);
            block = new WaveBlocks();
            model = new Model();
            for (int call = 0; call < CALLS; call++) {
                String at = "walk " + walk + ", call " + call + ": ";
                if (random.nextBoolean()) {
                    change(at);
                } else {
                    ask(at);
                }
            }
            wholeState("walk " + walk + ", at the end: ");
        }
        Checks.end();
    }
}
