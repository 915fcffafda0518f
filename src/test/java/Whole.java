import java.util.function.Supplier;

/**
 * Everything that an object tells, and that it would tell later, as a text. An object answers 512 calls only, so the
 * questions go to some 30 objects that are all made in the same way, by at most 300 calls.
 */
final class Whole {
    private static final int[] KINDS_OF_FLAG = {0, 1, 3, 4};
    private static final int FLAGS = 256;
    private static final int FLAGS_OF_ONE_OBJECT = 128;
    private static final int HOURS_OF_ONE_OBJECT = 6;
    private static final int MOST_STATES = 6;

    private final Supplier<ChalkSquares> maker;
    private final StringBuilder told = new StringBuilder();

    private Whole(Supplier<ChalkSquares> maker) {
        this.maker = maker;
    }

    /** The state, the pad, the history and the slots. */
    static String of(Supplier<ChalkSquares> maker) {
        Whole whole = new Whole(maker);
        whole.tellState();
        whole.tellPad();
        whole.tellHistory();
        whole.tellSlots();
        return whole.told.toString();
    }

    /** What undo() and restore() bring back: everything except the pad, the history and the slots. */
    static String stateOf(Supplier<ChalkSquares> maker) {
        Whole whole = new Whole(maker);
        whole.tellState();
        return whole.told.toString();
    }

    private void add(int answer) {
        told.append(answer).append(' ');
    }

    private void tellState() {
        tellInBrief(maker.get());
        tellSketch(maker.get());
        ChalkSquares rainy = maker.get();
        for (int in = 0; in <= 99; in++) {
            add(rainy.rains(in));
        }
        for (int what : KINDS_OF_FLAG) {
            for (int first = 0; first < FLAGS; first += FLAGS_OF_ONE_OBJECT) {
                tellFlags(maker.get(), first, what);
            }
        }
        for (int hour = 0; hour < 24; hour += HOURS_OF_ONE_OBJECT) {
            tellCrowds(maker.get(), hour);
        }
    }

    private void tellInBrief(ChalkSquares x) {
        for (int what = 0; what <= 15; what++) {
            add(x.count(what));
        }
        for (int hue = 1; hue <= 7; hue++) {
            for (int what = 0; what <= 3; what++) {
                add(x.ofHue(hue, what));
            }
        }
        for (int row = 0; row <= 7; row++) {
            for (int what = 0; what <= 3; what++) {
                add(x.squares(row, what));
            }
        }
    }

    private void tellSketch(ChalkSquares x) {
        for (int square = 0; square < 64; square++) {
            add(x.of(square / 8, square % 8, 0));
        }
    }

    private void tellFlags(ChalkSquares x, int first, int what) {
        for (int flag = first; flag < first + FLAGS_OF_ONE_OBJECT; flag++) {
            add(x.at(flag / 16, flag % 16, what));
        }
    }

    /** Each row and each column crosses the flags (0, 0), (1, 1) and so on: crowds leave feet on them. */
    private void tellCrowds(ChalkSquares x, int hour) {
        x.set(ChalkSquares.FEET, 99);
        if (hour > 0) {
            add(x.pass(hour));
        }
        for (int more = 0; more < HOURS_OF_ONE_OBJECT; more++) {
            add(x.pass(1));
            for (int line = 0; line <= 15; line++) {
                add(x.at(line, line, 4));
            }
        }
        add(x.at(0, 15, 4));
    }

    private void tellPad() {
        ChalkSquares x = maker.get();
        add(x.count(16));
        add(x.fault());
        add(x.carryOut());
        tellInBrief(x);
    }

    private void tellHistory() {
        add(maker.get().count(17));
        for (int steps = 1; steps <= MOST_STATES + 1; steps++) {
            ChalkSquares x = maker.get();
            for (int step = 0; step < steps; step++) {
                add(x.undo());
            }
            tellInBrief(x);
        }
    }

    private void tellSlots() {
        for (int slot = 0; slot <= 1; slot++) {
            ChalkSquares x = maker.get();
            add(x.restore(slot));
            tellInBrief(x);
        }
    }
}
