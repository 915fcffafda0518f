import java.util.Arrays;

/**
 * Pavement chalk that is drawn askew to stand upright from one mark. What each method answers is
 * told in ../shared/DOC.md, as numbered promises.
 */
public final class ChalkSquares {
    public static final int NO_SUCH = -1, BAD_VALUE = -2, BAD_TEXT = -3, TOO_MANY = -4, NOT_POSSIBLE = -5, NONE = -6;
    public static final int EYE = 0, AWAY = 1, MARK = 2, COAT = 3, WASH = 4, FEET = 5;

    private static final int SETTINGS = 6;
    private static final int[] LEAST_OF_SETTING = {2, 1, 0, 1, 0, 1};
    private static final int[] MOST_OF_SETTING = {40, 40, 15, 9, 9, 99};
    private static final int[] FIRST_OF_SETTING = {14, 8, 8, 3, 1, 10};

    private static final int SIDE = 8;
    private static final int SQUARES = 64;
    private static final int LINES = 16;
    private static final int FLAGS = 256;
    private static final int HUES = 8;
    private static final int LAST_HUE = 7;
    private static final int HUE_BITS = 3;
    private static final int MOST_HUES_OF_ROW = 16777215;

    private static final int MOST_COATS = 27;
    private static final int MOST_CHALK = 999;
    private static final int MOST_RAINS = 24;
    private static final int MOST_CROWDS = 12;
    private static final int DAY = 24;
    private static final int LAST_RAIN = 99;
    private static final int LAST_HOUR = 9999;
    private static final int LONGEST_PASS = 48;
    private static final int LONGEST_LASTING = 200;
    private static final int LONGEST_AWNING = 12;
    private static final int PAD_LENGTH = 80;
    private static final int LONGEST_PUT = 8;
    private static final int MOST_STATES = 6;
    private static final int SLOTS = 2;

    private final State now = new State();
    /** What would be: a copy of now in which hours pass. */
    private final State trial = new State();
    private final Sight sight = new Sight();
    private final Picture picture = new Picture();
    private final Pad pad = new Pad();
    private final History history = new History();
    private final State[] slots = new State[SLOTS];
    private final int[] strengths = new int[LONGEST_AWNING];
    private final int[] columnCoats = new int[LINES];

    public ChalkSquares() {
    }

    // ---- changes

    public int set(int setting, int value) {
        history.prepare(now);
        return history.keepUnlessError(now.changeSetting(setting, value));
    }

    public int square(int row, int column, int hue) {
        history.prepare(now);
        return history.keepUnlessError(now.changeSquare(row, column, hue));
    }

    public int row(int row, int hues) {
        history.prepare(now);
        return history.keepUnlessError(now.changeRow(row, hues));
    }

    public int chalk(int hue, int strokes) {
        history.prepare(now);
        return history.keepUnlessError(now.addChalk(hue, strokes));
    }

    public int stroke(int row, int column, int hue) {
        history.prepare(now);
        return history.keepUnlessError(now.strokeFlag(row, column, hue));
    }

    public int rub(int row, int column) {
        history.prepare(now);
        return history.keepUnlessError(now.rubFlag(row, column));
    }

    public int draw(int first, int last) {
        history.prepare(now);
        lookFromMark();
        return history.keepUnlessError(now.drawRows(first, last, sight));
    }

    public int mend() {
        history.prepare(now);
        takePicture();
        return history.keepUnlessError(now.mendSquares(sight, picture));
    }

    public int awning(int row, int column) {
        history.prepare(now);
        return history.keepUnlessError(now.changeAwning(row, column));
    }

    public int rain(int in, int strength) {
        history.prepare(now);
        return history.keepUnlessError(now.tellRain(in, strength));
    }

    public int crowd(int down, int line, int hour, int feet) {
        history.prepare(now);
        return history.keepUnlessError(now.tellCrowd(down, line, hour, feet));
    }

    public int pass(int hours) {
        history.prepare(now);
        return history.keepUnlessError(now.passHours(hours));
    }

    // ---- what there is

    public int at(int row, int column, int what) {
        int flag = flagAt(row, column);
        if (flag < 0) {
            return NO_SUCH;
        }
        switch (what) {
            case 0: return now.flags.hueOf(flag);
            case 1: return now.flags.coatsOf(flag);
            case 2: return squareThrough(flag);
            case 3: return now.flags.awningOver(flag);
            case 4: return now.flags.feetOn(flag);
            case 5: return wouldTouch(flag) ? 1 : 0;
            default: return BAD_VALUE;
        }
    }

    public int of(int row, int column, int what) {
        int square = squareAt(row, column);
        if (square < 0) {
            return NO_SUCH;
        }
        int hue = now.hueOfSquare(square);
        takePicture();
        switch (what) {
            case 0: return hue;
            case 1: return picture.hueOf(square);
            case 2: return picture.flagsOf(square);
            case 3: return picture.hueOf(square) == hue ? 1 : 0;
            case 4: return isOutline(now.sketch, row, column) ? 1 : 0;
            case 5: return isOutline(picture.hues, row, column) ? 1 : 0;
            case 6: return picture.flagsWithHue(square, hue);
            default: return BAD_VALUE;
        }
    }

    public int squares(int row, int what) {
        if (!within(row, 0, SIDE - 1)) {
            return NO_SUCH;
        }
        takePicture();
        switch (what) {
            case 0: return picture.rightOfRow(row, now);
            case 1: return picture.blindOfRow(row);
            case 2: return outlineOfRow(now.sketch, row);
            case 3: return outlineOfRow(picture.hues, row);
            default: return BAD_VALUE;
        }
    }

    public int ofHue(int hue, int what) {
        if (!within(hue, 0, LAST_HUE)) {
            return NO_SUCH;
        }
        switch (what) {
            case 0: return now.chalkOf(hue);
            case 1: return now.flags.withHue(hue);
            case 2: return now.squaresWithHue(hue);
            case 3: return now.flags.coatsWithHue(hue);
            default: return BAD_VALUE;
        }
    }

    public int rains(int in) {
        if (!within(in, 0, LAST_RAIN)) {
            return BAD_VALUE;
        }
        return now.rains.strengthAt(now.hours + in);
    }

    public int count(int what) {
        switch (what) {
            case 0: return now.hours;
            case 1: return now.rains.told();
            case 2: return now.crowds.told;
            case 3: return now.flags.notBare();
            case 4: return rightFromMark(now);
            case 5: return blindSquares();
            case 6: return SQUARES - now.squaresWithHue(0);
            case 7: return outlineStands() ? 1 : 0;
            case 8: return now.strokes;
            case 9: return now.rubbings;
            case 16: return pad.length;
            case 17: return history.kept;
            default: return within(what, 10, 15) ? now.settings[what - 10] : BAD_VALUE;
        }
    }

    // ---- what if; nothing changes

    public int from(int eye, int away, int mark) {
        if (!isOfSetting(EYE, eye) || !isOfSetting(AWAY, away) || !isOfSetting(MARK, mark)) {
            return BAD_VALUE;
        }
        return rightFrom(eye, away, mark, now);
    }

    public int bestMark(int what) {
        if (!within(what, 0, 1)) {
            return BAD_VALUE;
        }
        int best = 0;
        int most = -1;
        for (int mark = 0; mark < LINES; mark++) {
            int right = rightFrom(now.settings[EYE], now.settings[AWAY], mark, now);
            if (right > most) {
                best = mark;
                most = right;
            }
        }
        return what == 0 ? best : most;
    }

    public int needs(int hue) {
        if (!within(hue, 1, LAST_HUE)) {
            return BAD_VALUE;
        }
        lookFromMark();
        int needed = 0;
        for (int flag = 0; flag < FLAGS; flag++) {
            if (now.hueOfSquare(sight.squareThrough(flag)) == hue && now.flags.hueOf(flag) != hue) {
                needed++;
            }
        }
        return needed;
    }

    public int lastsFor() {
        trial.copyFrom(now);
        int rightNow = rightFromMark(trial);
        for (int hour = 1; hour <= LONGEST_LASTING; hour++) {
            // The picture stays as it was in an hour in which no flag becomes bare.
            if (trial.passHour() > 0 && rightFromMark(trial) < rightNow) {
                return hour;
            }
        }
        return NONE;
    }

    public int rightIn(int hours) {
        if (!within(hours, 0, LONGEST_PASS)) {
            return BAD_VALUE;
        }
        trial.copyFrom(now);
        for (int hour = 0; hour < hours; hour++) {
            trial.passHour();
        }
        return rightFromMark(trial);
    }

    public int bestAwning(int hours, int what) {
        if (!within(hours, 1, LONGEST_AWNING) || !within(what, 0, 1)) {
            return BAD_VALUE;
        }
        treadTrial(hours);
        int total = fillColumnCoats(hours);
        int best = NONE;
        int most = NONE;
        for (int flag = 0; flag < FLAGS; flag++) {
            if (now.flags.awningOver(flag) == 0) {
                int column = flag % LINES;
                int coats = total - columnCoats[column] + columnBehind(column, flag, hours);
                if (coats > most) {
                    best = flag;
                    most = coats;
                }
            }
        }
        return what == 0 ? best : most;
    }

    // ---- texts

    public int put(long characters) {
        return pad.append(characters);
    }

    public int wipe() {
        int length = pad.length;
        pad.length = 0;
        return length;
    }

    public int fault() {
        return pad.findFault();
    }

    public int carryOut() {
        if (pad.findFault() != NONE) {
            return BAD_TEXT;
        }
        history.prepare(now);
        pad.place = 0;
        int done = 0;
        while (done < PAD_LENGTH && pad.readOrder() && obeyOrder() >= 0) {
            done++;
            pad.readSign(';');
        }
        pad.length = 0;
        return history.keepUnlessError(done);
    }

    // ---- undo, saving

    public int undo() {
        return history.goBack(now);
    }

    public int save(int slot) {
        if (!within(slot, 0, SLOTS - 1)) {
            return BAD_VALUE;
        }
        State kept = slots[slot];
        if (kept == null) {
            kept = new State();
            slots[slot] = kept;
        }
        kept.copyFrom(now);
        return now.flags.notBare();
    }

    public int restore(int slot) {
        if (!within(slot, 0, SLOTS - 1)) {
            return BAD_VALUE;
        }
        State kept = slots[slot];
        if (kept == null) {
            return NOT_POSSIBLE;
        }
        history.prepare(now);
        now.copyFrom(kept);
        return history.keepUnlessError(now.flags.notBare());
    }

    // ---- helpers of the methods above

    private void lookFromMark() {
        sight.lookFrom(now.settings[EYE], now.settings[AWAY], now.settings[MARK]);
    }

    private void takePicture() {
        lookFromMark();
        picture.take(sight, now.flags);
    }

    private int rightFromMark(State state) {
        return rightFrom(state.settings[EYE], state.settings[AWAY], state.settings[MARK], state);
    }

    private int rightFrom(int eye, int away, int mark, State state) {
        sight.lookFrom(eye, away, mark);
        picture.take(sight, state.flags);
        return picture.rightSquares(state);
    }

    private int blindSquares() {
        takePicture();
        int blind = 0;
        for (int row = 0; row < SIDE; row++) {
            blind += Integer.bitCount(picture.blindOfRow(row));
        }
        return blind;
    }

    private boolean outlineStands() {
        takePicture();
        for (int row = 0; row < SIDE; row++) {
            if (outlineOfRow(now.sketch, row) != outlineOfRow(picture.hues, row)) {
                return false;
            }
        }
        return true;
    }

    private int squareThrough(int flag) {
        lookFromMark();
        int square = sight.squareThrough(flag);
        return square < 0 ? NONE : square;
    }

    private boolean wouldTouch(int flag) {
        lookFromMark();
        return now.flags.hueOf(flag) != now.hueOfSquare(sight.squareThrough(flag));
    }

    /**
     * Rain and feet take coats away down to 0 and nothing else, so what they leave does not depend
     * on which came first: the crowds of all the hours may walk before any rain falls.
     */
    private void treadTrial(int hours) {
        trial.copyFrom(now);
        for (int hour = 0; hour < hours && hour < LONGEST_AWNING; hour++) {
            strengths[hour] = now.rains.strengthAt(now.hours + hour);
            trial.crowds.walk(trial.flags, now.hours + hour, now.settings[FEET]);
        }
    }

    private int fillColumnCoats(int hours) {
        int total = 0;
        for (int column = 0; column < LINES; column++) {
            columnCoats[column] = columnBehind(column, NONE, hours);
            total += columnCoats[column];
        }
        return total;
    }

    /** An awning keeps water from its own column alone. */
    private int columnBehind(int column, int awning, int hours) {
        Flags flags = trial.flags;
        flags.dryColumn();
        for (int hour = 0; hour < hours && hour < LONGEST_AWNING; hour++) {
            if (strengths[hour] > 0) {
                flags.soakColumn(column, strengths[hour], awning);
            }
        }
        return flags.coatsOfSoakedColumn(column, now.settings[WASH]);
    }

    private int obeyOrder() {
        switch (pad.kind) {
            case 'r':
                return now.tellRain(pad.number(0), pad.number(1));
            case 'k':
                return now.addChalk(pad.number(0), pad.number(1));
            case 'f':
                return now.tellCrowd(pad.number(0), pad.number(1), pad.number(2), pad.number(3));
            case 'd':
                lookFromMark();
                return now.drawRows(0, LINES - 1, sight);
            default:
                return now.passHours(pad.number(0));
        }
    }

    private static boolean within(int value, int least, int most) {
        return value >= least && value <= most;
    }

    private static boolean isSetting(int setting) {
        return within(setting, 0, SETTINGS - 1);
    }

    private static boolean isOfSetting(int setting, int value) {
        return isSetting(setting) && within(value, LEAST_OF_SETTING[setting], MOST_OF_SETTING[setting]);
    }

    /** The number of a flag, NO_SUCH if there is none. */
    private static int flagAt(int row, int column) {
        boolean there = row >= 0 && row < LINES && column >= 0 && column < LINES;
        return there ? LINES * row + column : NO_SUCH;
    }

    /** The number of a square, NO_SUCH if there is none. */
    private static int squareAt(int row, int column) {
        boolean there = row >= 0 && row < SIDE && column >= 0 && column < SIDE;
        return there ? SIDE * row + column : NO_SUCH;
    }

    private static boolean isFlag(int flag) {
        return flag >= 0 && flag < FLAGS;
    }

    private static boolean isSquare(int square) {
        return square >= 0 && square < SQUARES;
    }

    private static boolean isOutline(int[] hues, int row, int column) {
        return !lacksHue(hues, row, column)
            && (lacksHue(hues, row + 1, column) || lacksHue(hues, row - 1, column)
                || lacksHue(hues, row, column - 1) || lacksHue(hues, row, column + 1));
    }

    /** Beyond the edge nothing has a hue, so a square with a hue at the edge is of the outline. */
    private static boolean lacksHue(int[] hues, int row, int column) {
        int square = squareAt(row, column);
        return square < 0 || square >= hues.length || hues[square] <= 0;
    }

    private static int outlineOfRow(int[] hues, int row) {
        int set = 0;
        for (int column = 0; column < SIDE; column++) {
            if (isOutline(hues, row, column)) {
                set |= 1 << column;
            }
        }
        return set;
    }

    /** Everything that undo and restore bring back. */
    private static final class State {
        final int[] settings = Arrays.copyOf(FIRST_OF_SETTING, SETTINGS);
        final int[] sketch = new int[SQUARES];
        final int[] chalk = new int[HUES];
        final Flags flags = new Flags();
        final Rains rains = new Rains();
        final Crowds crowds = new Crowds();
        int hours;
        int strokes;
        int rubbings;

        void copyFrom(State other) {
            System.arraycopy(other.settings, 0, settings, 0, SETTINGS);
            System.arraycopy(other.sketch, 0, sketch, 0, SQUARES);
            System.arraycopy(other.chalk, 0, chalk, 0, HUES);
            flags.copyFrom(other.flags);
            rains.copyFrom(other.rains);
            crowds.copyFrom(other.crowds);
            hours = other.hours;
            strokes = other.strokes;
            rubbings = other.rubbings;
        }

        int changeSetting(int setting, int value) {
            if (!isSetting(setting) || !isOfSetting(setting, value)) {
                return BAD_VALUE;
            }
            int previous = settings[setting];
            settings[setting] = value;
            return previous;
        }

        int changeSquare(int row, int column, int hue) {
            int square = squareAt(row, column);
            if (square < 0) {
                return NO_SUCH;
            }
            if (!within(hue, 0, LAST_HUE)) {
                return BAD_VALUE;
            }
            int previous = sketch[square];
            sketch[square] = hue;
            return previous;
        }

        int changeRow(int row, int hues) {
            if (!within(row, 0, SIDE - 1)) {
                return NO_SUCH;
            }
            if (!within(hues, 0, MOST_HUES_OF_ROW)) {
                return BAD_VALUE;
            }
            int previous = 0;
            for (int column = 0; column < SIDE; column++) {
                int square = SIDE * row + column;
                previous |= sketch[square] << HUE_BITS * column;
                sketch[square] = hues >> HUE_BITS * column & LAST_HUE;
            }
            return previous;
        }

        /** The hue that a square has in the sketch; where there is no square, none. */
        int hueOfSquare(int square) {
            return isSquare(square) ? sketch[square] & LAST_HUE : 0;
        }

        int squaresWithHue(int hue) {
            int found = 0;
            for (int square = 0; square < SQUARES; square++) {
                if (sketch[square] == hue) {
                    found++;
                }
            }
            return found;
        }

        int addChalk(int hue, int more) {
            if (!within(hue, 1, LAST_HUE) || !within(more, 1, MOST_CHALK)) {
                return BAD_VALUE;
            }
            chalk[hue] = Math.min(chalk[hue] + more, MOST_CHALK);
            return chalk[hue];
        }

        int chalkOf(int hue) {
            return within(hue, 0, LAST_HUE) ? chalk[hue] : 0;
        }

        int strokeFlag(int row, int column, int hue) {
            int flag = flagAt(row, column);
            if (flag < 0) {
                return NO_SUCH;
            }
            if (!within(hue, 1, LAST_HUE)) {
                return BAD_VALUE;
            }
            if (chalk[hue] <= 0) {
                return NOT_POSSIBLE;
            }
            return useChalk(flag, hue);
        }

        private int useChalk(int flag, int hue) {
            if (within(hue, 1, LAST_HUE)) {
                chalk[hue]--;
                strokes++;
                flags.addCoats(flag, hue, settings[COAT]);
            }
            return flags.coatsOf(flag);
        }

        int rubFlag(int row, int column) {
            int flag = flagAt(row, column);
            if (flag < 0) {
                return NO_SUCH;
            }
            return rubBare(flag);
        }

        private int rubBare(int flag) {
            int coats = flags.coatsOf(flag);
            rubbings++;
            flags.makeBare(flag);
            return coats;
        }

        int drawRows(int first, int last, Sight sight) {
            if (!within(first, 0, LINES - 1) || !within(last, first, LINES - 1)) {
                return BAD_VALUE;
            }
            int touched = 0;
            for (int flag = LINES * first; flag < LINES * last + LINES; flag++) {
                touched += drawFlag(flag, hueOfSquare(sight.squareThrough(flag)));
            }
            return touched;
        }

        /** Returns 1 if the flag gets a stroke or is rubbed bare, otherwise 0. */
        private int drawFlag(int flag, int hue) {
            if (flags.hueOf(flag) == hue) {
                return 0;
            }
            if (hue == 0) {
                rubBare(flag);
                return 1;
            }
            if (chalkOf(hue) <= 0) {
                return 0;
            }
            useChalk(flag, hue);
            return 1;
        }

        int mendSquares(Sight sight, Picture picture) {
            int drawn = 0;
            for (int square = 0; square < SQUARES; square++) {
                int hue = hueOfSquare(square);
                int seen = picture.hueOf(square);
                int strokesNeeded = hue == 0 ? 0 : picture.flagsOf(square) - picture.flagsWithHue(square, hue);
                if (seen != NONE && seen != hue && strokesNeeded <= chalkOf(hue)) {
                    drawSquare(square, sight);
                    drawn++;
                }
            }
            return drawn;
        }

        private void drawSquare(int square, Sight sight) {
            int hue = hueOfSquare(square);
            for (int flag = 0; flag < FLAGS; flag++) {
                if (sight.squareThrough(flag) == square) {
                    drawFlag(flag, hue);
                }
            }
        }

        int changeAwning(int row, int column) {
            int flag = flagAt(row, column);
            if (flag < 0) {
                return NO_SUCH;
            }
            return flags.turnAwning(flag);
        }

        int tellRain(int in, int strength) {
            if (!within(in, 0, LAST_RAIN) || !within(strength, 1, 9)) {
                return BAD_VALUE;
            }
            return rains.tell(hours + in, strength);
        }

        int tellCrowd(int down, int line, int hour, int feet) {
            if (!within(down, 0, 1) || !within(line, 0, LINES - 1)
                || !within(hour, 0, DAY - 1) || !within(feet, 1, 99)) {
                return BAD_VALUE;
            }
            return crowds.tell(down, line, hour, feet);
        }

        int passHours(int more) {
            if (!within(more, 1, LONGEST_PASS)) {
                return BAD_VALUE;
            }
            if (hours + more > LAST_HOUR) {
                return NOT_POSSIBLE;
            }
            int bare = 0;
            for (int hour = 0; hour < more; hour++) {
                bare += passHour();
            }
            return bare;
        }

        /** Returns how many flags became bare. */
        int passHour() {
            int bare = flags.rainOn(rains.strengthAt(hours), settings[WASH]);
            bare += crowds.walk(flags, hours, settings[FEET]);
            hours++;
            rains.dropBefore(hours);
            return bare;
        }
    }

    /** The flags of the pavement, row by row. A flag has the hue 0 if, and only if, it has no coats. */
    private static final class Flags {
        private final int[] hues = new int[FLAGS];
        private final int[] coats = new int[FLAGS];
        private final int[] awnings = new int[FLAGS];
        private final int[] feet = new int[FLAGS];
        /** The water that has been on each flag of one column; none outlasts the hour in which it fell. */
        private final int[] soaked = new int[LINES];

        void copyFrom(Flags other) {
            System.arraycopy(other.hues, 0, hues, 0, FLAGS);
            System.arraycopy(other.coats, 0, coats, 0, FLAGS);
            System.arraycopy(other.awnings, 0, awnings, 0, FLAGS);
            System.arraycopy(other.feet, 0, feet, 0, FLAGS);
        }

        int hueOf(int flag) {
            return isFlag(flag) ? hues[flag] & LAST_HUE : 0;
        }

        int coatsOf(int flag) {
            return isFlag(flag) ? coats[flag] : 0;
        }

        int awningOver(int flag) {
            return isFlag(flag) ? awnings[flag] : 0;
        }

        int feetOn(int flag) {
            return isFlag(flag) ? feet[flag] : 0;
        }

        int withHue(int hue) {
            int found = 0;
            for (int flag = 0; flag < FLAGS; flag++) {
                if (hues[flag] == hue) {
                    found++;
                }
            }
            return found;
        }

        int coatsWithHue(int hue) {
            int sum = 0;
            for (int flag = 0; flag < FLAGS; flag++) {
                if (hues[flag] == hue) {
                    sum += coats[flag];
                }
            }
            return sum;
        }

        int notBare() {
            return FLAGS - withHue(0);
        }

        void addCoats(int flag, int hue, int more) {
            if (isFlag(flag)) {
                int before = hues[flag] == hue ? coats[flag] : 0;
                hues[flag] = hue;
                coats[flag] = Math.min(before + more, MOST_COATS);
            }
        }

        void makeBare(int flag) {
            if (isFlag(flag)) {
                hues[flag] = 0;
                coats[flag] = 0;
            }
        }

        int turnAwning(int flag) {
            if (!isFlag(flag)) {
                return 0;
            }
            awnings[flag] = 1 - awnings[flag];
            return awnings[flag];
        }

        /** Returns 1 if the flag becomes bare by it, otherwise 0. */
        private int wearOff(int flag, int taken) {
            if (flag < 0 || flag >= FLAGS || coats[flag] == 0) {
                return 0;
            }
            if (coats[flag] > taken) {
                coats[flag] -= taken;
                return 0;
            }
            coats[flag] = 0;
            hues[flag] = 0;
            return 1;
        }

        /** Returns how many flags become bare by it. */
        int rainOn(int strength, int wash) {
            if (strength <= 0) {
                return 0;
            }
            int bare = 0;
            for (int column = 0; column < LINES; column++) {
                dryColumn();
                soakColumn(column, strength, NONE);
                for (int row = 0; row < LINES; row++) {
                    bare += wearOff(LINES * row + column, wash * soaked[row]);
                }
            }
            return bare;
        }

        void dryColumn() {
            Arrays.fill(soaked, 0);
        }

        /** One hour of rain on a column; the flag whose number is awning counts as covered, too. */
        void soakColumn(int column, int strength, int awning) {
            int water = 0;
            for (int row = LINES - 1; row >= 0; row--) {
                int flag = flagAt(row, column);
                boolean covered = flag < 0 || flag == awning || awnings[flag] > 0;
                water = water / 2 + (covered ? 0 : strength);
                soaked[row] += water;
            }
        }

        /** The coats that would be left on a column if its water took them now. */
        int coatsOfSoakedColumn(int column, int wash) {
            int sum = 0;
            for (int row = 0; row < LINES; row++) {
                sum += Math.max(coatsOf(LINES * row + column) - wash * soaked[row], 0);
            }
            return sum;
        }

        /** Returns 1 if the flag becomes bare by it, otherwise 0. */
        int treadOn(int flag, int more, int feetOfCoat) {
            if (!isFlag(flag) || feetOfCoat <= 0) {
                return 0;
            }
            int sum = feet[flag] + more;
            feet[flag] = sum % feetOfCoat;
            return wearOff(flag, sum / feetOfCoat);
        }
    }

    /** The rains that are told, each with the hour, counted from the first one, in which it falls. */
    private static final class Rains {
        private final int[] hours = new int[MOST_RAINS];
        /** 0 where no rain stands. */
        private final int[] strengths = new int[MOST_RAINS];

        void copyFrom(Rains other) {
            System.arraycopy(other.hours, 0, hours, 0, MOST_RAINS);
            System.arraycopy(other.strengths, 0, strengths, 0, MOST_RAINS);
        }

        int told() {
            int found = 0;
            for (int rain = 0; rain < MOST_RAINS; rain++) {
                if (strengths[rain] > 0) {
                    found++;
                }
            }
            return found;
        }

        int tell(int hour, int strength) {
            for (int rain = 0; rain < MOST_RAINS; rain++) {
                if (strengths[rain] == 0) {
                    hours[rain] = hour;
                    strengths[rain] = strength;
                    return told();
                }
            }
            return TOO_MANY;
        }

        int strengthAt(int hour) {
            int sum = 0;
            for (int rain = 0; rain < MOST_RAINS; rain++) {
                if (hours[rain] == hour) {
                    sum += strengths[rain];
                }
            }
            return sum;
        }

        void dropBefore(int hour) {
            for (int rain = 0; rain < MOST_RAINS; rain++) {
                if (hours[rain] < hour) {
                    strengths[rain] = 0;
                }
            }
        }
    }

    /** The crowds that are told, in their order. */
    private static final class Crowds {
        private final int[] downs = new int[MOST_CROWDS];
        private final int[] lines = new int[MOST_CROWDS];
        private final int[] hours = new int[MOST_CROWDS];
        private final int[] feet = new int[MOST_CROWDS];
        int told;

        void copyFrom(Crowds other) {
            System.arraycopy(other.downs, 0, downs, 0, MOST_CROWDS);
            System.arraycopy(other.lines, 0, lines, 0, MOST_CROWDS);
            System.arraycopy(other.hours, 0, hours, 0, MOST_CROWDS);
            System.arraycopy(other.feet, 0, feet, 0, MOST_CROWDS);
            told = other.told;
        }

        int tell(int down, int line, int hour, int count) {
            if (!within(told, 0, MOST_CROWDS - 1)) {
                return TOO_MANY;
            }
            downs[told] = down;
            lines[told] = line;
            hours[told] = hour;
            feet[told] = count;
            told++;
            return told;
        }

        /** Returns how many flags become bare by the crowds of an hour. */
        int walk(Flags flags, int hour, int feetOfCoat) {
            int bare = 0;
            for (int crowd = 0; crowd < MOST_CROWDS; crowd++) {
                if (crowd < told && hours[crowd] == hour % DAY) {
                    int first = downs[crowd] == 0 ? LINES * lines[crowd] : lines[crowd];
                    int step = downs[crowd] == 0 ? 1 : LINES;
                    for (int steps = 0; steps < LINES; steps++) {
                        bare += flags.treadOn(first + steps * step, feet[crowd], feetOfCoat);
                    }
                }
            }
            return bare;
        }
    }

    /** The squares that are seen through the flags from one mark. */
    private static final class Sight {
        private final int[] squares = new int[FLAGS];
        /** 0 before the first look: no eye is as low. */
        private int eye;
        private int away;
        private int mark;

        void lookFrom(int eyeNow, int awayNow, int markNow) {
            if (eye == eyeNow && away == awayNow && mark == markNow) {
                return;
            }
            eye = eyeNow;
            away = awayNow;
            mark = markNow;
            for (int flag = 0; flag < FLAGS; flag++) {
                squares[flag] = findSquare(flag / LINES, flag % LINES);
            }
        }

        private int findSquare(int row, int column) {
            int toFlag = 2 * (away + row) + 1;
            int toPavement = 2 * away;
            if (toFlag <= 0) {
                return NO_SUCH;
            }
            int up = Math.floorDiv(2 * eye * (toFlag - toPavement), toFlag);
            int across = Math.floorDiv(2 * (column - mark) * toPavement, toFlag);
            return squareAt(Math.floorDiv(up, 2), Math.floorDiv(across + SIDE, 2));
        }

        /** The number of the square, below 0 if none is seen. */
        int squareThrough(int flag) {
            return isFlag(flag) ? squares[flag] : NO_SUCH;
        }
    }

    /** The picture that flags show in one sight. */
    private static final class Picture {
        /** For each square and hue, the flags with the hue through which the square is seen. */
        private final int[] shown = new int[SQUARES * HUES];
        /** The hue of each square, NONE if it is blind. */
        final int[] hues = new int[SQUARES];

        void take(Sight sight, Flags flags) {
            Arrays.fill(shown, 0);
            for (int flag = 0; flag < FLAGS; flag++) {
                int square = sight.squareThrough(flag);
                if (isSquare(square)) {
                    shown[HUES * square + flags.hueOf(flag)]++;
                }
            }
            for (int square = 0; square < SQUARES; square++) {
                hues[square] = findHue(square);
            }
        }

        private int findHue(int square) {
            int best = NONE;
            int most = 0;
            for (int hue = 0; hue < HUES; hue++) {
                int found = flagsWithHue(square, hue);
                if (found > most) {
                    best = hue;
                    most = found;
                }
            }
            return best;
        }

        int hueOf(int square) {
            return isSquare(square) ? hues[square] : NONE;
        }

        int flagsWithHue(int square, int hue) {
            return isSquare(square) && within(hue, 0, LAST_HUE) ? shown[HUES * square + hue] : 0;
        }

        int flagsOf(int square) {
            int sum = 0;
            for (int hue = 0; hue < HUES; hue++) {
                sum += flagsWithHue(square, hue);
            }
            return sum;
        }

        int rightOfRow(int row, State state) {
            int set = 0;
            for (int column = 0; column < SIDE; column++) {
                int square = squareAt(row, column);
                if (hueOf(square) == state.hueOfSquare(square)) {
                    set |= 1 << column;
                }
            }
            return set;
        }

        int blindOfRow(int row) {
            int set = 0;
            for (int column = 0; column < SIDE; column++) {
                if (hueOf(squareAt(row, column)) == NONE) {
                    set |= 1 << column;
                }
            }
            return set;
        }

        int rightSquares(State state) {
            int sum = 0;
            for (int row = 0; row < SIDE; row++) {
                sum += Integer.bitCount(rightOfRow(row, state));
            }
            return sum;
        }
    }

    /** The text of orders, and the order that was read last. */
    private static final class Pad {
        private final char[] signs = new char[PAD_LENGTH];
        private final int[] numbers = new int[4];
        int length;
        /** Where reading stands: behind what could be read, so at the fault if there is one. */
        int place;
        char kind;

        int append(long characters) {
            int more = countCharacters(characters);
            if (more <= 0) {
                return BAD_VALUE;
            }
            if (length + more > PAD_LENGTH) {
                return TOO_MANY;
            }
            for (int left = more - 1; left >= 0; left--) {
                if (within(length, 0, PAD_LENGTH - 1)) {
                    signs[length] = (char) (characters >>> 8 * left & 255);
                    length++;
                }
            }
            return length;
        }

        /** How many characters a number gives, 0 if it gives none, or wrong ones. */
        private static int countCharacters(long characters) {
            for (int found = 0; found < LONGEST_PUT; found++) {
                long rest = characters >>> 8 * found;
                long code = rest & 255;
                if (rest == 0) {
                    return found;
                }
                if (code < 33 || code > 126) {
                    return 0;
                }
            }
            return LONGEST_PUT;
        }

        int number(int index) {
            return within(index, 0, numbers.length - 1) ? numbers[index] : 0;
        }

        int findFault() {
            place = 0;
            for (int order = 0; order <= PAD_LENGTH; order++) {
                if (!readOrder()) {
                    return place;
                }
                if (place >= length) {
                    return NONE;
                }
                if (!readSign(';')) {
                    return place;
                }
            }
            return place;
        }

        boolean readOrder() {
            kind = nextSign();
            switch (kind) {
                case 'r':
                    return readSign('r') && readNumber(0) && readSign('=') && readDigit(1);
                case 'k':
                    return readSign('k') && readDigit(0) && readSign('*') && readNumber(1);
                case 'f':
                    return readSign('f') && readWay(0) && readNumber(1) && readSign('@') && readNumber(2)
                        && readSign('*') && readNumber(3);
                case 'd':
                    return readSign('d');
                case 'h':
                    return readSign('h') && readNumber(0);
                default:
                    return false;
            }
        }

        /** The character at the place, 0 at the end. */
        private char nextSign() {
            return place < length && within(place, 0, PAD_LENGTH - 1) ? signs[place] : 0;
        }

        boolean readSign(char sign) {
            if (nextSign() != sign) {
                return false;
            }
            place++;
            return true;
        }

        private boolean readWay(int index) {
            keepNumber(index, nextSign() == '|' ? 1 : 0);
            return readSign('|') || readSign('-');
        }

        private boolean readDigit(int index) {
            char sign = nextSign();
            if (sign < '0' || sign > '9') {
                return false;
            }
            keepNumber(index, sign - '0');
            place++;
            return true;
        }

        /** At most three digits; a digit behind a leading 0 is left for what follows to refuse. */
        private boolean readNumber(int index) {
            if (!readDigit(index)) {
                return false;
            }
            int value = number(index);
            for (int digit = 1; digit < 3 && value > 0 && readDigit(index); digit++) {
                value = 10 * value + number(index);
            }
            keepNumber(index, value);
            return true;
        }

        private void keepNumber(int index, int value) {
            if (within(index, 0, numbers.length - 1)) {
                numbers[index] = value;
            }
        }
    }

    /** The states before the latest changes. */
    private static final class History {
        /** One place more than states are kept, for the state before a change that may be refused. */
        private final State[] states = new State[MOST_STATES + 1];
        private int next;
        int kept;

        void prepare(State now) {
            if (within(next, 0, MOST_STATES)) {
                State before = states[next];
                if (before == null) {
                    before = new State();
                    states[next] = before;
                }
                before.copyFrom(now);
            }
        }

        int keepUnlessError(int answer) {
            if (answer >= 0) {
                next = (next + 1) % (MOST_STATES + 1);
                kept = Math.min(kept + 1, MOST_STATES);
            }
            return answer;
        }

        int goBack(State now) {
            int latest = (next + MOST_STATES) % (MOST_STATES + 1);
            if (kept <= 0 || !within(latest, 0, MOST_STATES)) {
                return NOT_POSSIBLE;
            }
            State before = states[latest];
            if (before == null) {
                return NOT_POSSIBLE;
            }
            now.copyFrom(before);
            next = latest;
            kept--;
            return kept;
        }
    }
}
