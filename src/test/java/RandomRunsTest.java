import java.util.Random;

/** Random runs of at most 512 calls, each answer compared with that of the Reference. */
public final class RandomRunsTest {
    private static final int RUNS = 600;
    private static final int CALLS = 512;
    private static final int FLAGS = 256;
    private static final String[] NAMES = {"set", "square", "row", "chalk", "stroke", "rub", "draw", "mend", "awning",
        "rain", "crowd", "pass", "at", "of", "squares", "ofHue", "rains", "count", "from", "bestMark", "needs",
        "lastsFor", "rightIn", "bestAwning", "put", "wipe", "fault", "carryOut", "undo", "save", "restore"};
    private static final int[] WEIGHTS = {4, 6, 8, 8, 20, 3, 8, 3, 8, 8, 5, 8, 14, 12, 10, 6, 4, 14, 4, 1, 4, 1, 3, 1,
        14, 4, 6, 6, 7, 2, 3};
    private static final String[] ORDERS = {"d", "d", "h1", "h2", "h48", "k1*9", "k2*99", "k7*999", "r0=5", "r1=9", "r99=1",
        "f-3@1*9", "f|7@2*1", "f-0@0*9", "h0", "h49", "k0*1", "k8*1", "r100=1", "r0=0", "f|9@9*0"};
    private static final String[] PIECES = {"x", "00", "01", "@", "=", "9", "|", "-", "~", "!", ";", "d", "h", "f-16@0*1",
        "k3*1000", "*25", "f|15@", "23*99", "r", "h99", "k1*"};
    /** Some runs leave methods out, or call them often: so rains, crowds and characters become too many. */
    private static final int[] FACTORS = {0, 1, 1, 5};

    private final Random random;
    private final int[] weights = new int[WEIGHTS.length];
    private final ChalkSquares x = new ChalkSquares();
    private final Reference y = new Reference();
    private final StringBuilder calls = new StringBuilder();

    private RandomRunsTest(long seed) {
        random = new Random(seed);
        for (int i = 0; i < weights.length; i++) {
            weights[i] = WEIGHTS[i] * FACTORS[random.nextInt(FACTORS.length)];
        }
    }

    public static void main(String[] args) {
        Check check = new Check("RandomRunsTest");
        int runs = args.length > 0 ? Integer.parseInt(args[0]) : RUNS;
        int first = args.length > 1 ? Integer.parseInt(args[1]) : 0;
        for (int run = first; run < first + runs; run++) {
            if (!new RandomRunsTest(run).agrees(check, run)) {
                break;
            }
        }
        check.end();
    }

    private boolean agrees(Check check, int run) {
        // Every other run leaves calls to look at each flag at its end.
        boolean looksAtAll = run % 2 == 1;
        for (int i = 0; i < (looksAtAll ? CALLS - FLAGS : CALLS); i++) {
            String name = pick();
            Call call = new Call(name, arguments(name));
            int got = call.on(x);
            int want = call.on(y);
            calls.append(call).append(" = ").append(want).append('\n');
            check.due("run " + run + " call " + i + " " + call, got, want);
            if (got != want) {
                System.out.println(calls);
                return false;
            }
        }
        return !looksAtAll || sameFlags(check, run);
    }

    private boolean sameFlags(Check check, int run) {
        boolean same = true;
        for (int flag = 0; flag < FLAGS; flag++) {
            int what = random.nextInt(6);
            int got = x.at(flag / 16, flag % 16, what);
            int want = y.at(flag / 16, flag % 16, what);
            check.due("run " + run + " at the end: flag " + flag + " what " + what, got, want);
            same &= got == want;
        }
        if (!same) {
            System.out.println(calls);
        }
        return same;
    }

    private String pick() {
        int sum = 0;
        for (int weight : weights) sum += weight;
        int place = random.nextInt(sum);
        int i = 0;
        while (place >= weights[i]) {
            place -= weights[i];
            i++;
        }
        return NAMES[i];
    }

    /** Mostly a value within, sometimes one beside the range or far from it. */
    private int within(int least, int most) {
        int kind = random.nextInt(60);
        if (kind == 0) return least - 1;
        if (kind == 1) return most + 1;
        if (kind == 2) return random.nextInt();
        if (kind == 3) return least;
        if (kind == 4) return most;
        return least + random.nextInt(most - least + 1);
    }

    /** The squares that the pavement shows are mostly those of few hues. */
    private int hue(int least) {
        return random.nextInt(4) == 0 ? within(least, 7) : least + random.nextInt(3);
    }

    private int hues() {
        if (random.nextInt(20) == 0) return within(0, 16777215);
        int[] some = {0, 011111111, 022222222, 01222210, 011110000, 03333, 012121212};
        return some[random.nextInt(some.length)];
    }

    private long text() {
        if (random.nextInt(30) == 0) return random.nextLong();
        if (random.nextInt(30) == 0) return random.nextInt(3) == 0 ? 0 : 'd' * 65536L;
        String piece = PIECES[random.nextInt(PIECES.length)];
        if (random.nextInt(12) > 0) {
            piece = (y.count(16) == 0 ? "" : ";") + ORDERS[random.nextInt(ORDERS.length)];
        }
        long number = 0;
        for (int i = 0; i < piece.length() && i < 8; i++) number = number << 8 | piece.charAt(i);
        return number;
    }

    private long[] setArguments() {
        int[] least = {2, 1, 0, 1, 0, 1};
        int[] most = {40, 40, 15, 9, 9, 99};
        int setting = within(0, 5);
        boolean known = setting >= 0 && setting < 6;
        return new long[] {setting, known ? within(least[setting], most[setting]) : within(1, 9)};
    }

    private long[] arguments(String name) {
        switch (name) {
            case "set": return setArguments();
            case "square": return new long[] {within(0, 7), within(0, 7), hue(0)};
            case "row": return new long[] {within(0, 7), hues()};
            case "chalk": return new long[] {hue(1), within(1, random.nextBoolean() ? 999 : 20)};
            case "stroke": return new long[] {within(0, 15), within(0, 15), hue(1)};
            case "rub": case "awning": return new long[] {within(0, 15), within(0, 15)};
            case "draw": return random.nextBoolean() ? new long[] {0, 15} : new long[] {within(0, 15), within(0, 15)};
            case "rain": return new long[] {random.nextBoolean() ? within(0, 5) : within(0, 99), within(1, 9)};
            case "crowd": return new long[] {within(0, 1), within(0, 15), within(0, 23), within(1, 99)};
            case "pass": return new long[] {random.nextInt(3) > 0 ? within(1, 3) : within(1, 48)};
            case "at": return new long[] {within(0, 15), within(0, 15), within(0, 5)};
            case "of": return new long[] {within(0, 7), within(0, 7), within(0, 6)};
            case "squares": return new long[] {within(0, 7), within(0, 3)};
            case "ofHue": return new long[] {hue(0), within(0, 3)};
            case "rains": return new long[] {random.nextBoolean() ? within(0, 5) : within(0, 99)};
            case "count": return new long[] {within(0, 17)};
            case "from": return new long[] {within(2, 40), within(1, 40), within(0, 15)};
            case "bestMark": return new long[] {within(0, 1)};
            case "needs": return new long[] {hue(1)};
            case "rightIn": return new long[] {within(0, 48)};
            case "bestAwning": return new long[] {within(1, 12), within(0, 1)};
            case "put": return new long[] {text()};
            case "save": case "restore": return new long[] {within(0, 1)};
            default: return new long[0];
        }
    }
}
