import java.util.ArrayList;
import java.util.List;

/** All that can be seen of an object, so that a test can tell that nothing has changed. */
final class State {
    /** A call on an object that is made for it alone. */
    interface Use {
        void on(WaveBlocks block);
    }

    private static final long NEIGHBOURS = 0x0102030405060708L;

    private final List<String> names = new ArrayList<>();
    private final List<Long> answers = new ArrayList<>();

    private State() {
    }

    /** No two neighbours alike, in each of the four grids; no coefficient and no sample is 0. */
    static WaveBlocks filled() {
        WaveBlocks block = new WaveBlocks();
        for (int y = 0; y < 8; y++) {
            block.row(y, keptRow(y));
        }
        block.keep();
        for (int y = 0; y < 8; y++) {
            block.row(y, NEIGHBOURS * (2 * y + 3));
        }
        for (int place = 0; place < 64; place++) {
            block.put(place, place % 2 == 0 ? 100 + place : -100 - place);
            block.step(place, 3 * place + 2);
        }
        return block;
    }

    private static long keptRow(int y) {
        return NEIGHBOURS * (y + 9);
    }

    private void add(String name, long answer) {
        names.add(name);
        answers.add(answer);
    }

    /** Writes over the samples at its end: against the same rows, two errors tell kept samples apart. */
    static State of(WaveBlocks block) {
        State state = new State();
        for (int place = 0; place < 64; place++) {
            state.add("at(" + place + ", 0)", block.at(place, 0));
            state.add("at(" + place + ", 1)", block.at(place, 1));
        }
        for (int y = 0; y < 8; y++) {
            state.add("samples(" + y + ")", block.samples(y));
            state.add("error(" + (y + 1) + ")", block.error(y + 1));
        }
        for (int which = 0; which < 5; which++) {
            state.add("look(" + which + ")", block.look(which));
        }
        for (int y = 0; y < 8; y++) {
            block.row(y, keptRow(y));
        }
        state.add("error(8) against the rows that were kept", block.error(8));
        return state;
    }

    static void same(String what, WaveBlocks got, WaveBlocks want) {
        State ours = of(got);
        State due = of(want);
        for (int i = 0; i < due.names.size(); i++) {
            Checks.due(what + ", then " + due.names.get(i), ours.answers.get(i), due.answers.get(i));
        }
    }

    /** The call throws what is due, on a filled object and on a new one, and both stay as they were. */
    static void refused(String what, String want, Use use) {
        WaveBlocks filled = filled();
        Checks.refused(what, () -> use.on(filled), want);
        same(what, filled, filled());
        WaveBlocks fresh = new WaveBlocks();
        Checks.refused(what + " on a new object", () -> use.on(fresh), want);
        same(what + " on a new object", fresh, new WaveBlocks());
    }

    /** The call throws nothing, and the object stays as it was. */
    static void left(String what, Use use) {
        WaveBlocks filled = filled();
        Checks.refused(what, () -> use.on(filled), "done");
        same(what, filled, filled());
    }
}
