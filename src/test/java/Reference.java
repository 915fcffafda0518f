import java.util.ArrayList;
import java.util.Arrays;
import java.util.List;
import java.util.regex.Matcher;
import java.util.regex.Pattern;

/**
 * The document once more, word by word and as slowly as it says it: hours go by flag for flag, water
 * is kept, an awning is tried by letting the whole pavement stand in the rain, a text is read by a
 * pattern. RandomRunsTest compares the class with it.
 */
final class Reference {
    static final int NO_SUCH = -1, BAD_VALUE = -2, BAD_TEXT = -3, TOO_MANY = -4, NOT_POSSIBLE = -5, NONE = -6;

    private static final String NUMBER = "(?:0|[1-9][0-9]{0,2})";
    private static final String ORDER = "(?:r" + NUMBER + "=[0-9]|k[0-9]\\*" + NUMBER
        + "|f[-|]" + NUMBER + "@" + NUMBER + "\\*" + NUMBER + "|d|h" + NUMBER + ")";
    private static final Pattern TEXT = Pattern.compile(ORDER + "(?:;" + ORDER + ")*");

    static final class Flag {
        int hue;
        int coats;
        boolean awning;
        int feet;
        int water;

        Flag copy() {
            Flag f = new Flag();
            f.hue = hue;
            f.coats = coats;
            f.awning = awning;
            f.feet = feet;
            f.water = water;
            return f;
        }
    }

    static final class World {
        int[] settings = {14, 8, 8, 3, 1, 10};
        int[][] sketch = new int[8][8];
        Flag[][] flags = new Flag[16][16];
        int[] chalk = new int[8];
        List<int[]> rains = new ArrayList<>();
        List<int[]> crowds = new ArrayList<>();
        int hours;
        int strokes;
        int rubbings;

        World copy() {
            World w = new World();
            w.settings = settings.clone();
            for (int i = 0; i < 8; i++) w.sketch[i] = sketch[i].clone();
            for (int r = 0; r < 16; r++) for (int c = 0; c < 16; c++) w.flags[r][c] = flags[r][c].copy();
            w.chalk = chalk.clone();
            for (int[] rain : rains) w.rains.add(rain.clone());
            for (int[] crowd : crowds) w.crowds.add(crowd.clone());
            w.hours = hours;
            w.strokes = strokes;
            w.rubbings = rubbings;
            return w;
        }
    }

    private World w = new World();
    private String pad = "";
    private final List<World> history = new ArrayList<>();
    private final World[] slots = new World[2];
    private boolean inText;

    Reference() {
        for (int r = 0; r < 16; r++) for (int c = 0; c < 16; c++) w.flags[r][c] = new Flag();
    }

    private void record() {
        if (inText) return;
        history.add(w.copy());
        if (history.size() > 6) history.remove(0);
    }

    private static boolean out(int value, int least, int most) {
        return value < least || value > most;
    }

    // ---- seeing

    private static int down(int a, int b) {
        return (int) Math.floor((double) a / b);
    }

    /** Row and column of the square that is seen, null if there is none. */
    private static int[] seen(int eye, int away, int mark, int r, int c) {
        int g = 2 * (away + r) + 1;
        int d = 2 * away;
        int row = down(down(2 * eye * (g - d), g), 2);
        int column = down(down(2 * (c - mark) * d, g) + 8, 2);
        return out(row, 0, 7) || out(column, 0, 7) ? null : new int[] {row, column};
    }

    private int[] seen(int r, int c) {
        return seen(w.settings[0], w.settings[1], w.settings[2], r, c);
    }

    private static List<Flag> flagsOf(World x, int eye, int away, int mark, int row, int column) {
        List<Flag> found = new ArrayList<>();
        for (int r = 0; r < 16; r++) {
            for (int c = 0; c < 16; c++) {
                int[] s = seen(eye, away, mark, r, c);
                if (s != null && s[0] == row && s[1] == column) found.add(x.flags[r][c]);
            }
        }
        return found;
    }

    private static int pictured(List<Flag> through) {
        int best = NONE;
        int most = 0;
        for (int hue = 7; hue >= 0; hue--) {
            int n = 0;
            for (Flag f : through) if (f.hue == hue) n++;
            if (n > 0 && n >= most) {
                best = hue;
                most = n;
            }
        }
        return best;
    }

    private static int[][] picture(World x, int eye, int away, int mark) {
        int[][] p = new int[8][8];
        List<List<Flag>> through = new ArrayList<>();
        for (int i = 0; i < 64; i++) through.add(new ArrayList<>());
        for (int r = 0; r < 16; r++) {
            for (int c = 0; c < 16; c++) {
                int[] s = seen(eye, away, mark, r, c);
                if (s != null) through.get(8 * s[0] + s[1]).add(x.flags[r][c]);
            }
        }
        for (int i = 0; i < 64; i++) p[i / 8][i % 8] = pictured(through.get(i));
        return p;
    }

    private static int[][] picture(World x) {
        return picture(x, x.settings[0], x.settings[1], x.settings[2]);
    }

    private static int right(World x, int eye, int away, int mark) {
        int[][] p = picture(x, eye, away, mark);
        int n = 0;
        for (int i = 0; i < 8; i++) for (int j = 0; j < 8; j++) if (p[i][j] != NONE && p[i][j] == x.sketch[i][j]) n++;
        return n;
    }

    private static int right(World x) {
        return right(x, x.settings[0], x.settings[1], x.settings[2]);
    }

    private static boolean outline(int[][] hues, int row, int column) {
        if (hues[row][column] < 1) return false;
        if (row == 0 || row == 7 || column == 0 || column == 7) return true;
        return hues[row - 1][column] < 1 || hues[row + 1][column] < 1
            || hues[row][column - 1] < 1 || hues[row][column + 1] < 1;
    }

    // ---- changes

    int set(int setting, int value) {
        int[] least = {2, 1, 0, 1, 0, 1};
        int[] most = {40, 40, 15, 9, 9, 99};
        if (out(setting, 0, 5) || out(value, least[setting], most[setting])) return BAD_VALUE;
        record();
        int before = w.settings[setting];
        w.settings[setting] = value;
        return before;
    }

    int square(int row, int column, int hue) {
        if (out(row, 0, 7) || out(column, 0, 7)) return NO_SUCH;
        if (out(hue, 0, 7)) return BAD_VALUE;
        record();
        int before = w.sketch[row][column];
        w.sketch[row][column] = hue;
        return before;
    }

    int row(int row, int hues) {
        if (out(row, 0, 7)) return NO_SUCH;
        if (out(hues, 0, 16777215)) return BAD_VALUE;
        record();
        StringBuilder before = new StringBuilder();
        String digits = Integer.toOctalString(hues);
        while (digits.length() < 8) digits = "0" + digits;
        for (int column = 7; column >= 0; column--) {
            before.append(w.sketch[row][column]);
            w.sketch[row][column] = digits.charAt(7 - column) - '0';
        }
        return Integer.parseInt(before.toString(), 8);
    }

    int chalk(int hue, int strokes) {
        if (out(hue, 1, 7) || out(strokes, 1, 999)) return BAD_VALUE;
        record();
        w.chalk[hue] += strokes;
        if (w.chalk[hue] > 999) w.chalk[hue] = 999;
        return w.chalk[hue];
    }

    private void onto(Flag f, int hue) {
        w.chalk[hue]--;
        w.strokes++;
        if (f.hue == hue) {
            f.coats += w.settings[3];
            if (f.coats > 27) f.coats = 27;
        } else {
            f.hue = hue;
            f.coats = w.settings[3];
        }
    }

    int stroke(int row, int column, int hue) {
        if (out(row, 0, 15) || out(column, 0, 15)) return NO_SUCH;
        if (out(hue, 1, 7)) return BAD_VALUE;
        if (w.chalk[hue] == 0) return NOT_POSSIBLE;
        record();
        onto(w.flags[row][column], hue);
        return w.flags[row][column].coats;
    }

    private void offOf(Flag f) {
        w.rubbings++;
        f.hue = 0;
        f.coats = 0;
    }

    int rub(int row, int column) {
        if (out(row, 0, 15) || out(column, 0, 15)) return NO_SUCH;
        record();
        int before = w.flags[row][column].coats;
        offOf(w.flags[row][column]);
        return before;
    }

    private int hueToDraw(int r, int c) {
        int[] s = seen(r, c);
        return s == null ? 0 : w.sketch[s[0]][s[1]];
    }

    private int drawFlag(int r, int c) {
        Flag f = w.flags[r][c];
        int hue = hueToDraw(r, c);
        if (hue > 0) {
            if (f.hue != hue && w.chalk[hue] > 0) {
                onto(f, hue);
                return 1;
            }
        } else if (f.coats > 0) {
            offOf(f);
            return 1;
        }
        return 0;
    }

    int draw(int first, int last) {
        if (out(first, 0, 15) || out(last, first, 15)) return BAD_VALUE;
        record();
        int n = 0;
        for (int r = first; r <= last; r++) for (int c = 0; c < 16; c++) n += drawFlag(r, c);
        return n;
    }

    int mend() {
        record();
        int n = 0;
        int[][] p = picture(w);
        for (int i = 0; i < 8; i++) {
            for (int j = 0; j < 8; j++) {
                if (p[i][j] == NONE || p[i][j] == w.sketch[i][j]) continue;
                int hue = w.sketch[i][j];
                World before = w.copy();
                boolean suffices = true;
                for (int r = 0; r < 16; r++) {
                    for (int c = 0; c < 16; c++) {
                        int[] s = seen(r, c);
                        if (s == null || s[0] != i || s[1] != j) continue;
                        if (hue > 0 && w.flags[r][c].hue != hue && w.chalk[hue] == 0) suffices = false;
                        drawFlag(r, c);
                    }
                }
                if (suffices) n++;
                else w = before;
            }
        }
        return n;
    }

    int awning(int row, int column) {
        if (out(row, 0, 15) || out(column, 0, 15)) return NO_SUCH;
        record();
        w.flags[row][column].awning = !w.flags[row][column].awning;
        return w.flags[row][column].awning ? 1 : 0;
    }

    int rain(int in, int strength) {
        if (out(in, 0, 99) || out(strength, 1, 9)) return BAD_VALUE;
        if (w.rains.size() == 24) return TOO_MANY;
        record();
        w.rains.add(new int[] {w.hours + in, strength});
        return w.rains.size();
    }

    int crowd(int down, int line, int hour, int feet) {
        if (out(down, 0, 1) || out(line, 0, 15) || out(hour, 0, 23) || out(feet, 1, 99)) return BAD_VALUE;
        if (w.crowds.size() == 12) return TOO_MANY;
        record();
        w.crowds.add(new int[] {down, line, hour, feet});
        return w.crowds.size();
    }

    private static int passOne(World x) {
        int strength = 0;
        for (int[] rain : x.rains) if (rain[0] == x.hours) strength += rain[1];
        for (Flag[] line : x.flags) for (Flag f : line) if (!f.awning) f.water += strength;
        for (int r = 15; r >= 0; r--) {
            for (int c = 0; c < 16; c++) {
                Flag f = x.flags[r][c];
                for (int i = 0; i < f.water * x.settings[4]; i++) if (f.coats > 0) f.coats--;
                if (r > 0) x.flags[r - 1][c].water += f.water / 2;
                f.water = 0;
            }
        }
        for (int[] crowd : x.crowds) {
            if (crowd[2] != x.hours % 24) continue;
            for (int i = 0; i < 16; i++) {
                Flag f = crowd[0] == 0 ? x.flags[crowd[1]][i] : x.flags[i][crowd[1]];
                f.feet += crowd[3];
                while (f.feet >= x.settings[5]) {
                    f.feet -= x.settings[5];
                    if (f.coats > 0) f.coats--;
                }
            }
        }
        int bare = 0;
        for (Flag[] line : x.flags) {
            for (Flag f : line) {
                if (f.coats == 0 && f.hue > 0) {
                    bare++;
                    f.hue = 0;
                }
            }
        }
        x.rains.removeIf(rain -> rain[0] == x.hours);
        x.hours++;
        return bare;
    }

    int pass(int hours) {
        if (out(hours, 1, 48)) return BAD_VALUE;
        if (w.hours + hours > 9999) return NOT_POSSIBLE;
        record();
        int bare = 0;
        for (int i = 0; i < hours; i++) bare += passOne(w);
        return bare;
    }

    // ---- what there is

    int at(int row, int column, int what) {
        if (out(row, 0, 15) || out(column, 0, 15)) return NO_SUCH;
        if (out(what, 0, 5)) return BAD_VALUE;
        Flag f = w.flags[row][column];
        int[] s = seen(row, column);
        int hue = hueToDraw(row, column);
        int[] answers = {f.hue, f.coats, s == null ? NONE : 8 * s[0] + s[1], f.awning ? 1 : 0, f.feet,
            hue > 0 ? (f.hue != hue ? 1 : 0) : (f.coats > 0 ? 1 : 0)};
        return answers[what];
    }

    int of(int row, int column, int what) {
        if (out(row, 0, 7) || out(column, 0, 7)) return NO_SUCH;
        if (out(what, 0, 6)) return BAD_VALUE;
        int hue = w.sketch[row][column];
        int[][] p = picture(w);
        List<Flag> through = flagsOf(w, w.settings[0], w.settings[1], w.settings[2], row, column);
        int same = 0;
        for (Flag f : through) if (f.hue == hue) same++;
        int[] answers = {hue, p[row][column], through.size(), p[row][column] == hue ? 1 : 0,
            outline(w.sketch, row, column) ? 1 : 0, outline(p, row, column) ? 1 : 0, same};
        return answers[what];
    }

    int squares(int row, int what) {
        if (out(row, 0, 7)) return NO_SUCH;
        if (out(what, 0, 3)) return BAD_VALUE;
        int[][] p = picture(w);
        int set = 0;
        for (int column = 0; column < 8; column++) {
            boolean[] in = {p[row][column] == w.sketch[row][column], p[row][column] == NONE,
                outline(w.sketch, row, column), outline(p, row, column)};
            if (in[what]) set += Math.pow(2, column);
        }
        return set;
    }

    int ofHue(int hue, int what) {
        if (out(hue, 0, 7)) return NO_SUCH;
        if (out(what, 0, 3)) return BAD_VALUE;
        int flags = 0;
        int coats = 0;
        int squares = 0;
        for (Flag[] line : w.flags) for (Flag f : line) if (f.hue == hue) {
            flags++;
            coats += f.coats;
        }
        for (int[] line : w.sketch) for (int h : line) if (h == hue) squares++;
        if (hue == 0 && (what == 0 || what == 3)) return 0;
        return new int[] {w.chalk[hue], flags, squares, coats}[what];
    }

    int rains(int in) {
        if (out(in, 0, 99)) return BAD_VALUE;
        int sum = 0;
        for (int[] rain : w.rains) if (rain[0] - w.hours == in) sum += rain[1];
        return sum;
    }

    private static int notBare(World x) {
        int n = 0;
        for (Flag[] line : x.flags) for (Flag f : line) if (f.coats > 0) n++;
        return n;
    }

    int count(int what) {
        if (out(what, 0, 17)) return BAD_VALUE;
        if (what >= 10 && what <= 15) return w.settings[what - 10];
        int blind = 0;
        int coloured = 0;
        boolean same = true;
        int[][] p = picture(w);
        for (int i = 0; i < 8; i++) {
            for (int j = 0; j < 8; j++) {
                if (p[i][j] == NONE) blind++;
                if (w.sketch[i][j] > 0) coloured++;
                if (outline(p, i, j) != outline(w.sketch, i, j)) same = false;
            }
        }
        int[] answers = {w.hours, w.rains.size(), w.crowds.size(), notBare(w), right(w), blind, coloured,
            same ? 1 : 0, w.strokes, w.rubbings, 0, 0, 0, 0, 0, 0, pad.length(), history.size()};
        return answers[what];
    }

    // ---- what if

    int from(int eye, int away, int mark) {
        if (out(eye, 2, 40) || out(away, 1, 40) || out(mark, 0, 15)) return BAD_VALUE;
        return right(w, eye, away, mark);
    }

    int bestMark(int what) {
        if (out(what, 0, 1)) return BAD_VALUE;
        int best = 15;
        for (int mark = 15; mark >= 0; mark--) {
            if (right(w, w.settings[0], w.settings[1], mark) >= right(w, w.settings[0], w.settings[1], best)) best = mark;
        }
        return what == 0 ? best : right(w, w.settings[0], w.settings[1], best);
    }

    int needs(int hue) {
        if (out(hue, 1, 7)) return BAD_VALUE;
        World kept = w;
        w = w.copy();
        Arrays.fill(w.chalk, 9999);
        for (int r = 0; r < 16; r++) for (int c = 0; c < 16; c++) drawFlag(r, c);
        int used = 9999 - w.chalk[hue];
        w = kept;
        return used;
    }

    int lastsFor() {
        World x = w.copy();
        int before = right(x);
        for (int hours = 1; hours <= 200; hours++) {
            passOne(x);
            if (right(x) < before) return hours;
        }
        return NONE;
    }

    int rightIn(int hours) {
        if (out(hours, 0, 48)) return BAD_VALUE;
        World x = w.copy();
        for (int i = 0; i < hours; i++) passOne(x);
        return right(x);
    }

    int bestAwning(int hours, int what) {
        if (out(hours, 1, 12) || out(what, 0, 1)) return BAD_VALUE;
        int best = NONE;
        int most = NONE;
        for (int r = 0; r < 16; r++) {
            for (int c = 0; c < 16; c++) {
                if (w.flags[r][c].awning) continue;
                World x = w.copy();
                x.flags[r][c].awning = true;
                for (int i = 0; i < hours; i++) passOne(x);
                int coats = 0;
                for (Flag[] line : x.flags) for (Flag f : line) coats += f.coats;
                if (best == NONE || coats > most) {
                    best = 16 * r + c;
                    most = coats;
                }
            }
        }
        return what == 0 ? best : most;
    }

    // ---- texts

    int put(long characters) {
        String more = "";
        boolean ended = false;
        for (int i = 0; i < 8; i++) {
            int code = (int) (characters >> 8 * i & 0xFF);
            if (code == 0) {
                ended = true;
            } else {
                if (ended || out(code, 33, 126)) return BAD_VALUE;
                more = (char) code + more;
            }
        }
        if (more.isEmpty()) return BAD_VALUE;
        if (pad.length() + more.length() > 80) return TOO_MANY;
        pad += more;
        return pad.length();
    }

    int wipe() {
        int length = pad.length();
        pad = "";
        return length;
    }

    private static boolean canStart(String start) {
        Matcher m = TEXT.matcher(start);
        return m.matches() || m.hitEnd();
    }

    int fault() {
        for (int i = 0; i < pad.length(); i++) if (!canStart(pad.substring(0, i + 1))) return i;
        return TEXT.matcher(pad).matches() ? NONE : pad.length();
    }

    private int carryOutOrder(String order) {
        String[] parts = order.substring(1).split("[=*@]");
        int[] n = new int[3];
        for (int i = 0; i < parts.length; i++) {
            String digits = parts[i].replaceAll("[^0-9]", "");
            n[i] = digits.isEmpty() ? 0 : Integer.parseInt(digits);
        }
        switch (order.charAt(0)) {
            case 'r': return rain(n[0], n[1]);
            case 'k': return chalk(n[0], n[1]);
            case 'f': return crowd(order.charAt(1) == '|' ? 1 : 0, n[0], n[1], n[2]);
            case 'd': return draw(0, 15);
            default: return pass(n[0]);
        }
    }

    int carryOut() {
        if (fault() != NONE) return BAD_TEXT;
        record();
        inText = true;
        int n = 0;
        for (String order : pad.split(";")) {
            if (carryOutOrder(order) < 0) break;
            n++;
        }
        inText = false;
        pad = "";
        return n;
    }

    // ---- undo, saving

    int undo() {
        if (history.isEmpty()) return NOT_POSSIBLE;
        w = history.remove(history.size() - 1);
        return history.size();
    }

    int save(int slot) {
        if (out(slot, 0, 1)) return BAD_VALUE;
        slots[slot] = w.copy();
        return notBare(w);
    }

    int restore(int slot) {
        if (out(slot, 0, 1)) return BAD_VALUE;
        if (slots[slot] == null) return NOT_POSSIBLE;
        record();
        w = slots[slot].copy();
        return notBare(w);
    }
}
