/** The square that is seen through each flag, from each mark (promise 14), and divisions of numbers below 0. */
public final class SeeingTest {
    private static final int NONE = ChalkSquares.NONE;

    private final Check check = new Check("SeeingTest");

    public static void main(String[] args) {
        SeeingTest test = new SeeingTest();
        test.quotientsBelowNothing();
        test.sumsBelowNothing();
        test.besideTheSketch();
        test.settingsOneByOne();
        test.fromEachMark();
        test.check.end();
    }

    /** 2 * (c - mark) * d / g is rounded down before 8 is added, not towards 0. */
    private void quotientsBelowNothing() {
        ChalkSquares x = new ChalkSquares();
        // 2 * -4 * 16 / 19 = -6.7, so -7: the column 1 / 2 = 0 (of -6 it would be 1).
        check.due("at(1, 4, 2)", x.at(1, 4, 2), 2 * 8);
        // 2 * -3 * 16 / 21 = -4.6, so -5: the column 3 / 2 = 1 (of -4 it would be 2).
        check.due("at(2, 5, 2)", x.at(2, 5, 2), 3 * 8 + 1);
        // 2 * -2 * 16 / 17 = -3.8, so -4: the column 2; -96 / 17 = -5.6, so -6: the column 1.
        check.due("at(0, 6, 2)", x.at(0, 6, 2), 2);
        check.due("at(0, 5, 2)", x.at(0, 5, 2), 1);
        // 2 * -4 * 16 / 17 = -7.5, so -8: the column 0.
        check.due("at(0, 4, 2)", x.at(0, 4, 2), 0);
        x.set(ChalkSquares.AWAY, 40);
        // 2 * -4 * 80 / 81 = -7.9, so -8: the column 0; 2 * -5 * 80 / 81 = -9.9, so -10: the column -1.
        check.due("at(0, 4, 2) from 40 away", x.at(0, 4, 2), 0);
        check.due("at(0, 3, 2) from 40 away", x.at(0, 3, 2), NONE);
    }

    /** (-9 + 8) / 2 is -1, not 0. */
    private void sumsBelowNothing() {
        ChalkSquares x = new ChalkSquares();
        // 2 * -5 * 16 / 19 = -8.4, so -9.
        check.due("at(1, 3, 2)", x.at(1, 3, 2), NONE);
        // 2 * -6 * 16 / 23 = -8.3, so -9.
        check.due("at(3, 2, 2)", x.at(3, 2, 2), NONE);
        // 2 * -7 * 16 / 25 = -8.96, so -9.
        check.due("at(4, 1, 2)", x.at(4, 1, 2), NONE);
        // 2 * -8 * 16 / 31 = -8.3, so -9; one row behind, 2 * -8 * 16 / 33 = -7.8, so -8.
        check.due("at(7, 0, 2)", x.at(7, 0, 2), NONE);
        check.due("at(8, 0, 2)", x.at(8, 0, 2), 7 * 8);
        x.set(ChalkSquares.MARK, 15);
        check.due("at(1, 10, 2) from the mark 15", x.at(1, 10, 2), NONE);
        check.due("at(1, 11, 2) from the mark 15", x.at(1, 11, 2), 2 * 8);
    }

    private void besideTheSketch() {
        ChalkSquares x = new ChalkSquares();
        // The row 10: 28 * 21 / 37 / 2 = 7; the row 11: 28 * 23 / 39 / 2 = 8.
        check.due("the row 7", x.at(10, 8, 2), 7 * 8 + 4);
        check.due("the row 8", x.at(11, 8, 2), NONE);
        // The column 12: (128 / 17 + 8) / 2 = 7; the column 13: (160 / 17 + 8) / 2 = 8.
        check.due("the column 7", x.at(0, 12, 2), 7);
        check.due("the column 8", x.at(0, 13, 2), NONE);
        check.due("neither", x.at(15, 15, 2), NONE);
    }

    /** One object looks from many marks, each of which differs from the one before in one setting. */
    private void settingsOneByOne() {
        int[] firsts = {2, 8, 9, 14, 15};
        for (int first : firsts) {
            for (int setting = ChalkSquares.EYE; setting <= ChalkSquares.MARK; setting++) {
                ChalkSquares x = new ChalkSquares();
                int[] mark = {first, first, first};
                for (int s = ChalkSquares.EYE; s <= ChalkSquares.MARK; s++) {
                    x.set(s, first);
                }
                check.due("flags seen wrongly from " + first, seenWrongly(x, mark), 0);
                for (int value : firsts) {
                    x.set(setting, value);
                    mark[setting] = value;
                    check.due("flags seen wrongly with the setting " + setting + " from " + first + " to " + value,
                        seenWrongly(x, mark), 0);
                }
            }
        }
    }

    private static int seenWrongly(ChalkSquares x, int[] mark) {
        int wrong = 0;
        for (int flag = 0; flag < 256; flag += 5) {
            int due = seen(mark[ChalkSquares.EYE], mark[ChalkSquares.AWAY], flag / 16, flag % 16 - mark[ChalkSquares.MARK]);
            wrong += x.at(flag / 16, flag % 16, 2) == due ? 0 : 1;
        }
        return wrong;
    }

    private void fromEachMark() {
        for (int eye = 2; eye <= 40; eye++) {
            for (int away = 1; away <= 40; away++) {
                for (int mark = 0; mark <= 15; mark++) {
                    fromOneMark(eye, away, mark);
                }
            }
        }
    }

    private void fromOneMark(int eye, int away, int mark) {
        ChalkSquares x = new ChalkSquares();
        x.set(ChalkSquares.EYE, eye);
        x.set(ChalkSquares.AWAY, away);
        x.set(ChalkSquares.MARK, mark);
        int wrong = 0;
        for (int flag = 0; flag < 256; flag++) {
            int row = flag / 16;
            int column = flag % 16;
            int answer = x.at(row, column, 2);
            if (answer != seen(eye, away, row, column - mark)) {
                wrong++;
            }
        }
        check.due("flags seen wrongly by the eye " + eye + ", " + away + " away from " + mark, wrong, 0);
    }

    private static int seen(int eye, int away, int r, int aside) {
        int g = 2 * (away + r) + 1;
        int d = 2 * away;
        int row = roundedDown(roundedDown(2 * eye * (g - d), g), 2);
        int column = roundedDown(roundedDown(2 * aside * d, g) + 8, 2);
        return row < 0 || row > 7 || column < 0 || column > 7 ? NONE : 8 * row + column;
    }

    private static int roundedDown(int dividend, int divisor) {
        int quotient = dividend / divisor;
        return quotient * divisor > dividend ? quotient - 1 : quotient;
    }
}
