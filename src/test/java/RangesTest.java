import java.util.LinkedHashMap;
import java.util.Map;
import java.util.function.Supplier;

/**
 * The range of each argument of each method: its ends are taken, what lies just beside them and far from them is
 * refused, of two errors the one that is named first is returned, and a refused call changes nothing.
 */
public final class RangesTest {
    private static final int NO_SUCH = ChalkSquares.NO_SUCH, BAD_VALUE = ChalkSquares.BAD_VALUE;
    private static final int TOO_MANY = ChalkSquares.TOO_MANY, NOT_POSSIBLE = ChalkSquares.NOT_POSSIBLE;
    private static final int NONE = ChalkSquares.NONE, BAD_TEXT = ChalkSquares.BAD_TEXT;
    /** Of an argument whose range is not looked at. */
    private static final int NO_ERROR = 0;

    /** The range of an argument, the error beside it, and what is given while another argument is looked at. */
    private record Range(int least, int most, int usual, int error) {
        int[] beside() {
            return new int[] {least - 1, most + 1, Integer.MIN_VALUE, Integer.MAX_VALUE};
        }
    }

    private final Check check = new Check("RangesTest");
    private final Map<String, Supplier<ChalkSquares>> scenes = new LinkedHashMap<>();
    private final Map<String, String> wholes = new LinkedHashMap<>();

    private RangesTest() {
        scenes.put("a new object", ChalkSquares::new);
        scenes.put("a busy object", Scene::busy);
        scenes.put("a full object", Scene::full);
        scenes.put("the last hour", Scene::atLastHour);
        scenes.put("awnings over all flags", Scene::allAwnings);
        scenes.forEach((name, scene) -> wholes.put(name, Whole.of(scene)));
    }

    public static void main(String[] args) {
        RangesTest test = new RangesTest();
        test.sketchAndSettings();
        test.strokes();
        test.rowsToDraw();
        test.hours();
        test.whatThereIs();
        test.whatIf();
        test.slots();
        test.whatIsLookedAtLast();
        test.characters();
        test.refusedTexts();
        test.check.end();
    }

    // Promises 2 to 4
    private void sketchAndSettings() {
        int[] least = {2, 1, 0, 1, 0, 1};
        int[] most = {40, 40, 15, 9, 9, 99};
        ranges("set", within(0, 5, 3, BAD_VALUE), only(9));
        for (int setting = 0; setting <= 5; setting++) {
            ranges("set", only(setting), within(least[setting], most[setting], 9, BAD_VALUE));
        }
        both("set", BAD_VALUE, -1, -1);
        both("set", BAD_VALUE, 6, 100);
        ranges("square", within(0, 7, 3, NO_SUCH), within(0, 7, 3, NO_SUCH), within(0, 7, 1, BAD_VALUE));
        ranges("row", within(0, 7, 3, NO_SUCH), within(0, 16777215, 1, BAD_VALUE));
    }

    // Promises 5 to 7 and 10
    private void strokes() {
        ranges("chalk", within(1, 7, 3, BAD_VALUE), within(1, 999, 1, BAD_VALUE));
        ranges("stroke", within(0, 15, 3, NO_SUCH), within(0, 15, 3, NO_SUCH), within(1, 7, 3, BAD_VALUE));
        ranges("rub", within(0, 15, 3, NO_SUCH), within(0, 15, 3, NO_SUCH));
        ranges("awning", within(0, 15, 3, NO_SUCH), within(0, 15, 3, NO_SUCH));
    }

    // Promise 8
    private void rowsToDraw() {
        ranges("draw", within(0, 15, 3, BAD_VALUE), only(15));
        for (int first = 0; first <= 15; first++) {
            ranges("draw", only(first), within(first, 15, 15, BAD_VALUE));
        }
        both("draw", BAD_VALUE, -1, -1);
        both("draw", BAD_VALUE, -2, -1);
        both("draw", BAD_VALUE, 16, 16);
        both("draw", BAD_VALUE, 15, 0);
    }

    // Promises 11 to 13
    private void hours() {
        ranges("rain", within(0, 99, 3, BAD_VALUE), within(1, 9, 1, BAD_VALUE));
        ranges("crowd", within(0, 1, 0, BAD_VALUE), within(0, 15, 3, BAD_VALUE), within(0, 23, 3, BAD_VALUE),
            within(1, 99, 1, BAD_VALUE));
        ranges("pass", within(1, 48, 1, BAD_VALUE));
    }

    // Promises 14 to 19
    private void whatThereIs() {
        ranges("at", within(0, 15, 3, NO_SUCH), within(0, 15, 3, NO_SUCH), within(0, 5, 1, BAD_VALUE));
        ranges("of", within(0, 7, 3, NO_SUCH), within(0, 7, 3, NO_SUCH), within(0, 6, 1, BAD_VALUE));
        ranges("squares", within(0, 7, 3, NO_SUCH), within(0, 3, 1, BAD_VALUE));
        ranges("ofHue", within(0, 7, 3, NO_SUCH), within(0, 3, 1, BAD_VALUE));
        ranges("rains", within(0, 99, 3, BAD_VALUE));
        ranges("count", within(0, 17, 3, BAD_VALUE));
        // No square is seen through the flag (15, 8), and the square (1, 4) is blind.
        both("at", BAD_VALUE, 15, 8, 6);
        both("of", BAD_VALUE, 1, 4, 7);
        both("ofHue", BAD_VALUE, 0, 4);
    }

    // Promises 20 to 25
    private void whatIf() {
        ranges("from", within(2, 40, 14, BAD_VALUE), within(1, 40, 8, BAD_VALUE), within(0, 15, 8, BAD_VALUE));
        ranges("bestMark", within(0, 1, 0, BAD_VALUE));
        ranges("needs", within(1, 7, 1, BAD_VALUE));
        ranges("rightIn", within(0, 48, 1, BAD_VALUE));
        ranges("bestAwning", within(1, 12, 1, BAD_VALUE), within(0, 1, 0, BAD_VALUE));
    }

    // Promises 31 and 32
    private void slots() {
        ranges("save", within(0, 1, 0, BAD_VALUE));
        ranges("restore", within(0, 1, 0, BAD_VALUE));
    }

    /** Errors that the arguments alone do not tell: the calls above, which have wrong arguments too, name those first. */
    private void whatIsLookedAtLast() {
        refused("a full object", NOT_POSSIBLE, new Call("stroke", 3, 3, 3));
        refused("a new object", NOT_POSSIBLE, new Call("stroke", 0, 0, 1));
        refused("a full object", TOO_MANY, new Call("rain", 0, 1));
        refused("a full object", TOO_MANY, new Call("rain", 99, 9));
        refused("a full object", TOO_MANY, new Call("crowd", 0, 0, 0, 1));
        refused("a full object", TOO_MANY, new Call("crowd", 1, 15, 23, 99));
        refused("the last hour", NOT_POSSIBLE, new Call("pass", 1));
        refused("the last hour", NOT_POSSIBLE, new Call("pass", 48));
        refused("awnings over all flags", NONE, new Call("bestAwning", 1, 0));
        refused("awnings over all flags", NONE, new Call("bestAwning", 12, 1));
        refused("a new object", NOT_POSSIBLE, new Call("undo"));
        refused("a new object", NOT_POSSIBLE, new Call("restore", 0));
        refused("a new object", NOT_POSSIBLE, new Call("restore", 1));
        refused("a new object", BAD_TEXT, new Call("carryOut"));
        refused("a new object", NONE, new Call("lastsFor"));
    }

    // Promise 26
    private void characters() {
        for (String scene : scenes.keySet()) {
            refused(scene, BAD_VALUE, new Call("put", 0));
            refused(scene, BAD_VALUE, new Call("put", 32));
            refused(scene, BAD_VALUE, new Call("put", 127));
            refused(scene, BAD_VALUE, new Call("put", Scene.characters("d") << 8));
            refused(scene, BAD_VALUE, new Call("put", 1L << 32 | 'd'));
            refused(scene, BAD_VALUE, new Call("put", Long.MIN_VALUE));
            refused(scene, BAD_VALUE, new Call("put", -1));
        }
        refused("a full object", TOO_MANY, new Call("put", 33));
        refused("a full object", TOO_MANY, new Call("put", Scene.characters(";d;d;d;d")));
    }

    // Promise 29
    private void refusedTexts() {
        String[] texts = {"d;", "k1*9;", "h1000", "k1*9;x", "d;d;d;d;d;d;d;d;d;d;d;d;d;d;d;d;d;d;d;d;d;d;d;d;d;d;h01"};
        for (String text : texts) {
            Supplier<ChalkSquares> scene = () -> {
                ChalkSquares x = Scene.busy();
                x.wipe();
                Scene.put(x, text);
                return x;
            };
            scenes.put(text, scene);
            wholes.put(text, Whole.of(scene));
            refused(text, BAD_TEXT, new Call("carryOut"));
        }
    }

    private static Range within(int least, int most, int usual, int error) {
        return new Range(least, most, usual, error);
    }

    private static Range only(int usual) {
        return new Range(usual, usual, usual, NO_ERROR);
    }

    private void ranges(String method, Range... ranges) {
        for (int i = 0; i < ranges.length; i++) {
            Range range = ranges[i];
            if (range.error == NO_ERROR) {
                continue;
            }
            taken(call(method, ranges, i, range.least));
            taken(call(method, ranges, i, range.most));
            for (int wrong : range.beside()) {
                for (String scene : scenes.keySet()) {
                    refused(scene, range.error, call(method, ranges, i, wrong));
                }
                twoErrors(method, ranges, i, wrong);
            }
        }
    }

    private void twoErrors(String method, Range[] ranges, int first, int wrong) {
        for (int second = first + 1; second < ranges.length; second++) {
            for (int wrongToo : ranges[second].beside()) {
                if (ranges[second].error != NO_ERROR) {
                    long[] arguments = usual(ranges);
                    arguments[first] = wrong;
                    arguments[second] = wrongToo;
                    both(method, ranges[first].error, arguments);
                }
            }
        }
    }

    private static long[] usual(Range[] ranges) {
        long[] arguments = new long[ranges.length];
        for (int i = 0; i < ranges.length; i++) {
            arguments[i] = ranges[i].usual;
        }
        return arguments;
    }

    private static Call call(String method, Range[] ranges, int index, int value) {
        long[] arguments = usual(ranges);
        arguments[index] = value;
        return new Call(method, arguments);
    }

    /** A call is taken if it answers no error; a busy object has all that calls may need. */
    private void taken(Call call) {
        int answer = call.on(Scene.busy());
        check.holds(call + " of a busy object is taken: " + answer, answer >= 0 || answer == NONE);
    }

    private void both(String method, int error, long... arguments) {
        Call call = new Call(method, arguments);
        scenes.forEach((name, scene) -> check.due(call + " of " + name, call.on(scene.get()), error));
    }

    private void refused(String name, int error, Call call) {
        Supplier<ChalkSquares> scene = scenes.get(name);
        check.due(call + " of " + name, call.on(scene.get()), error);
        String then = Whole.of(() -> {
            ChalkSquares x = scene.get();
            call.on(x);
            return x;
        });
        check.holds(call + " of " + name + " changes nothing", then.equals(wholes.get(name)));
    }
}
