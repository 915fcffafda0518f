/** Promises 2 to 4: set, square, row. */
public final class SketchTest {
    private static final int NO_SUCH = ChalkSquares.NO_SUCH, BAD_VALUE = ChalkSquares.BAD_VALUE;
    private static final int LOWEST = Integer.MIN_VALUE, HIGHEST = Integer.MAX_VALUE;
    private static final int[] LEAST = {2, 1, 0, 1, 0, 1};
    private static final int[] MOST = {40, 40, 15, 9, 9, 99};
    private static final int[] FIRST = {14, 8, 8, 3, 1, 10};

    private final Check check = new Check("SketchTest");

    public static void main(String[] args) {
        SketchTest test = new SketchTest();
        test.set();
        test.setIsSeen();
        test.square();
        test.row();
        test.rowAndSquareAreOne();
        test.check.end();
    }

    // Promise 2
    private void set() {
        ChalkSquares x = new ChalkSquares();
        for (int s = 0; s <= 5; s++) {
            check.due("set to the least", x.set(s, LEAST[s]), FIRST[s]);
            check.due("the least stands", x.count(10 + s), LEAST[s]);
            check.due("set below the least", x.set(s, LEAST[s] - 1), BAD_VALUE);
            check.due("set to the most", x.set(s, MOST[s]), LEAST[s]);
            check.due("set above the most", x.set(s, MOST[s] + 1), BAD_VALUE);
            check.due("set to the lowest int", x.set(s, LOWEST), BAD_VALUE);
            check.due("set to the highest int", x.set(s, HIGHEST), BAD_VALUE);
            check.due("the most stands", x.count(10 + s), MOST[s]);
            check.due("set to the same", x.set(s, MOST[s]), MOST[s]);
            check.due("set back", x.set(s, FIRST[s]), MOST[s]);
        }
        int[] none = {-1, 6, LOWEST, HIGHEST};
        for (int s : none) {
            check.due("no setting " + s, x.set(s, 5), BAD_VALUE);
        }
        for (int s = 0; s <= 5; s++) {
            check.due("the setting " + s + " is as at first", x.count(10 + s), FIRST[s]);
        }
    }

    private void setIsSeen() {
        ChalkSquares x = new ChalkSquares();
        check.due("square through (0, 8)", x.at(0, 8, 2), 4);
        x.set(ChalkSquares.MARK, 12);
        check.due("square through (0, 8) from the mark 12", x.at(0, 8, 2), 0);
        x.set(ChalkSquares.MARK, 8);
        check.due("square through (0, 8) from the mark 8 again", x.at(0, 8, 2), 4);
        // g = 17, d = 16: 2 * 40 * 1 / 17 = 4, so the row 2.
        x.set(ChalkSquares.EYE, 40);
        check.due("square through (0, 8) with the eye 40", x.at(0, 8, 2), 20);
        // g = 81, d = 80: 2 * 40 * 1 / 81 = 0.
        x.set(ChalkSquares.AWAY, 40);
        check.due("square through (0, 8) from 40 away", x.at(0, 8, 2), 4);
    }

    // Promise 3
    private void square() {
        ChalkSquares x = new ChalkSquares();
        check.due("square(0, 0, 7)", x.square(0, 0, 7), 0);
        check.due("square(0, 0, 0)", x.square(0, 0, 0), 7);
        check.due("square(7, 7, 3)", x.square(7, 7, 3), 0);
        check.due("square(7, 7, 3) again", x.square(7, 7, 3), 3);
        check.due("of(7, 7, 0)", x.of(7, 7, 0), 3);
        check.due("square(2, 5, 1)", x.square(2, 5, 1), 0);
        check.due("of(2, 5, 0)", x.of(2, 5, 0), 1);
        check.due("of(5, 2, 0)", x.of(5, 2, 0), 0);
        check.due("squares with a hue", x.count(6), 2);
        int[] none = {-1, 8, LOWEST, HIGHEST};
        for (int n : none) {
            check.due("no row " + n, x.square(n, 0, 1), NO_SUCH);
            check.due("no column " + n, x.square(0, n, 1), NO_SUCH);
            check.due("no hue " + n, x.square(0, 0, n), BAD_VALUE);
            check.due("no row before no hue", x.square(n, 0, n), NO_SUCH);
            check.due("no column before no hue", x.square(0, n, n), NO_SUCH);
        }
        check.due("changes", x.count(17), 5);
    }

    // Promise 4
    private void row() {
        ChalkSquares x = new ChalkSquares();
        check.due("row(0, 076543210)", x.row(0, 076543210), 0);
        for (int column = 0; column <= 7; column++) {
            check.due("hue of the column " + column, x.of(0, column, 0), column);
        }
        check.due("the same", x.row(0, 076543210), 076543210);
        check.due("all sevens", x.row(0, 16777215), 076543210);
        check.due("all sevens are left", x.row(0, 0), 16777215);
        check.due("row 7", x.row(7, 01), 0);
        check.due("row 7 again", x.row(7, 02), 1);
        x.square(7, 7, 5);
        check.due("row 7 with another square", x.row(7, 0), 050000002);
        int[] none = {-1, 8, LOWEST, HIGHEST};
        for (int n : none) {
            check.due("no row " + n, x.row(n, 1), NO_SUCH);
            check.due("no row before no hues", x.row(n, -1), NO_SUCH);
        }
        int[] wrong = {-1, 16777216, LOWEST, HIGHEST};
        for (int hues : wrong) {
            check.due("no hues " + hues, x.row(0, hues), BAD_VALUE);
        }
    }

    private void rowAndSquareAreOne() {
        ChalkSquares x = new ChalkSquares();
        for (int row = 0; row <= 7; row++) {
            for (int column = 0; column <= 7; column++) {
                check.due("square", x.square(row, column, (row + column) % 8), 0);
            }
        }
        for (int row = 0; row <= 7; row++) {
            int hues = 0;
            for (int column = 0; column <= 7; column++) {
                hues += (row + column) % 8 << 3 * column;
            }
            check.due("the row " + row, x.row(row, 0), hues);
            check.due("squares that are left", x.count(6), 49 - 7 * row);
        }
    }
}
