/** Promises 14 to 19: at, of, squares, ofHue, rains, count. */
public final class LookingTest {
    private static final int NO_SUCH = ChalkSquares.NO_SUCH, BAD_VALUE = ChalkSquares.BAD_VALUE;
    private static final int NONE = ChalkSquares.NONE;
    private static final int LOWEST = Integer.MIN_VALUE, HIGHEST = Integer.MAX_VALUE;

    private final Check check = new Check("LookingTest");

    public static void main(String[] args) {
        LookingTest test = new LookingTest();
        test.seen();
        test.seenFromElsewhere();
        test.at();
        test.of();
        test.noneIsNoError();
        test.flagsOfAllSquares();
        test.flagsOfEachHue();
        test.hueOfThePicture();
        test.lowestOfSeveralHues();
        test.outlines();
        test.outlineAroundAGap();
        test.edgesAreOutline();
        test.squares();
        test.ofHue();
        test.coatsOnTheFlagsOfAHue();
        test.rains();
        test.rainsOfEachHour();
        test.count();
        test.wrongArguments();
        test.lookingChangesNothing();
        test.check.end();
    }

    // Promise 14
    private void seen() {
        ChalkSquares x = new ChalkSquares();
        // The rows of the sketch by 28 * (2 * r + 1) / (17 + 2 * r) / 2.
        int[] rows = {0, 2, 3, 4, 5, 5, 6, 6, 7, 7, 7};
        for (int r = 0; r < rows.length; r++) {
            check.due("at(" + r + ", 8, 2)", x.at(r, 8, 2), 8 * rows[r] + 4);
        }
        for (int r = rows.length; r <= 15; r++) {
            check.due("at(" + r + ", 8, 2)", x.at(r, 8, 2), NONE);
        }
        // The columns in the row 0 by (32 * (c - 8) / 17 + 8) / 2, rounded down below 0, too.
        int[] columns = {NONE, NONE, NONE, NONE, 0, 1, 2, 3, 4, 4, 5, 6, 7, NONE, NONE, NONE};
        for (int c = 0; c <= 15; c++) {
            check.due("at(0, " + c + ", 2)", x.at(0, c, 2), columns[c]);
        }
        check.due("at(10, 0, 2)", x.at(10, 0, 2), 7 * 8);
        check.due("at(10, 15, 2)", x.at(10, 15, 2), 7 * 8 + 7);
    }

    private void seenFromElsewhere() {
        ChalkSquares x = new ChalkSquares();
        x.set(ChalkSquares.EYE, 2);
        x.set(ChalkSquares.AWAY, 40);
        x.set(ChalkSquares.MARK, 0);
        // g = 81 + 30, d = 80: 4 * 31 / 111 = 1, so the row 0; 30 * 80 / 111 = 21.
        check.due("at(15, 15, 2)", x.at(15, 15, 2), NONE);
        // 6 * 80 / 111 = 4: the column (4 + 8) / 2.
        check.due("at(15, 3, 2)", x.at(15, 3, 2), 6);
        check.due("at(0, 0, 2)", x.at(0, 0, 2), 4);
        x.set(ChalkSquares.MARK, 15);
        // -2 * 80 / 81 = -2: the column 3.
        check.due("at(0, 14, 2)", x.at(0, 14, 2), 3);
        check.due("at(0, 15, 2)", x.at(0, 15, 2), 4);
        x.set(ChalkSquares.AWAY, 1);
        // g = 33, d = 2: -30 * 2 / 33 = -2: the column 3; 4 * 31 / 33 = 3: the row 1.
        check.due("at(15, 0, 2)", x.at(15, 0, 2), 11);
    }

    private void at() {
        ChalkSquares x = Scene.rowDrawn();
        check.due("hue", x.at(0, 4, 0), 1);
        check.due("coats", x.at(0, 4, 1), 3);
        check.due("awning", x.at(0, 4, 3), 0);
        check.due("feet", x.at(0, 4, 4), 0);
        check.due("draw would not touch it", x.at(0, 4, 5), 0);
        check.due("nor a bare one", x.at(0, 3, 5), 0);
        x.awning(0, 4);
        check.due("awning then", x.at(0, 4, 3), 1);
        x.crowd(0, 0, 0, 13);
        x.pass(1);
        check.due("feet then", x.at(0, 4, 4), 3);
        check.due("coats then", x.at(0, 4, 1), 2);
        x.square(0, 0, 7);
        check.due("draw would touch it, without chalk", x.at(0, 4, 5), 1);
        x.square(0, 0, 0);
        check.due("and rub it", x.at(0, 4, 5), 1);
        Scene.stroke(x, 15, 15, 2);
        check.due("and rub where none is seen", x.at(15, 15, 5), 1);
        x.square(2, 4, 3);
        check.due("and stroke a bare one", x.at(1, 8, 5), 1);
    }

    // Promise 15
    private void of() {
        ChalkSquares x = Scene.rowDrawn();
        check.due("hue of the sketch", x.of(0, 4, 0), 1);
        check.due("hue of the picture", x.of(0, 4, 1), 1);
        check.due("flags", x.of(0, 4, 2), 2);
        check.due("right", x.of(0, 4, 3), 1);
        check.due("flags with the hue", x.of(0, 4, 6), 2);
        x.square(0, 4, 0);
        check.due("without a hue", x.of(0, 4, 0), 0);
        check.due("still in the picture", x.of(0, 4, 1), 1);
        check.due("not right", x.of(0, 4, 3), 0);
        check.due("flags without a hue", x.of(0, 4, 6), 0);
        x.square(1, 2, 5);
        check.due("blind: its hue", x.of(1, 2, 0), 5);
        check.due("blind: in the picture", x.of(1, 2, 1), NONE);
        check.due("blind: flags", x.of(1, 2, 2), 0);
        check.due("blind: not right", x.of(1, 2, 3), 0);
        check.due("blind: flags with the hue", x.of(1, 2, 6), 0);
        check.due("blind, without a hue: not right", x.of(1, 3, 3), 0);
        check.due("bare and without a hue: right", x.of(7, 4, 3), 1);
        check.due("bare flags through which it is seen", x.of(7, 4, 6), 9);
    }

    private void noneIsNoError() {
        ChalkSquares x = new ChalkSquares();
        check.due("no square is seen through (15, 8)", x.at(15, 8, 2), NONE);
        check.due("but the flag has a hue", x.at(15, 8, 0), 0);
        check.due("and it is not touched", x.at(15, 8, 5), 0);
        check.due("there is no such thing about it", x.at(15, 8, 6), BAD_VALUE);
        check.due("nor such a flag", x.at(16, 8, 2), NO_SUCH);
        check.due("the square (1, 4) is blind", x.of(1, 4, 1), NONE);
        check.due("but has a hue", x.of(1, 4, 0), 0);
        check.due("there is no such thing about it", x.of(1, 4, 7), BAD_VALUE);
        check.due("nor such a square", x.of(8, 4, 1), NO_SUCH);
        x.set(ChalkSquares.EYE, 2);
        x.set(ChalkSquares.AWAY, 40);
        check.due("now it is not blind", x.of(0, 4, 1), 0);
        for (int column = 0; column <= 7; column++) {
            check.due("the row 7 is", x.of(7, column, 1), NONE);
        }
    }

    private void flagsOfAllSquares() {
        ChalkSquares x = new ChalkSquares();
        int[] flags = new int[64];
        for (int flag = 0; flag < 256; flag++) {
            int square = x.at(flag / 16, flag % 16, 2);
            if (square != NONE) {
                flags[square]++;
            }
        }
        for (int square = 0; square < 64; square++) {
            check.due("flags of the square " + square, x.of(square / 8, square % 8, 2), flags[square]);
            check.due("bare ones", x.of(square / 8, square % 8, 6), flags[square]);
            check.due("right, if there are any", x.of(square / 8, square % 8, 3), flags[square] > 0 ? 1 : 0);
        }
    }

    private void flagsOfEachHue() {
        for (int hue = 0; hue <= 7; hue++) {
            ChalkSquares x = new ChalkSquares();
            x.square(7, 4, hue);
            x.chalk(1 + hue % 7, 9);
            x.stroke(8, 8, 1 + hue % 7);
            for (int left = 1; hue > 0 && left <= 8; left++) {
                Scene.stroke(x, 8 + left / 3, 8 + left % 3, hue);
            }
            check.due("flags of the square, whatever their hues are", x.of(7, 4, 2), 9);
            check.due("flags that have the hue " + hue, x.of(7, 4, 6), 8);
            check.due("the picture", x.of(7, 4, 1), hue);
            check.due("right", x.of(7, 4, 3), 1);
        }
    }

    private void hueOfThePicture() {
        ChalkSquares x = new ChalkSquares();
        x.chalk(1, 9);
        x.chalk(2, 9);
        x.chalk(7, 9);
        x.stroke(0, 8, 7);
        check.due("one of two is bare: 0 is lower", x.of(0, 4, 1), 0);
        x.stroke(0, 9, 2);
        check.due("7 and 2", x.of(0, 4, 1), 2);
        x.stroke(0, 8, 1);
        check.due("1 and 2", x.of(0, 4, 1), 1);
        // (7, 4) is seen through nine flags: (8..10, 8..10).
        x.stroke(8, 8, 7);
        x.stroke(8, 9, 7);
        x.stroke(9, 8, 7);
        x.stroke(9, 9, 7);
        check.due("four of nine", x.of(7, 4, 1), 0);
        x.stroke(10, 8, 1);
        check.due("four, four and one: 0 is lower than 7", x.of(7, 4, 1), 0);
        x.stroke(10, 9, 1);
        check.due("four, three and two", x.of(7, 4, 1), 7);
        check.due("flags without a hue", x.of(7, 4, 6), 3);
    }

    private void lowestOfSeveralHues() {
        // The square (0, 4) is seen through the flags (0, 8) and (0, 9).
        for (int one = 1; one <= 7; one++) {
            for (int other = 1; other <= 7; other++) {
                ChalkSquares x = new ChalkSquares();
                Scene.stroke(x, 0, 8, one);
                check.due("0 and " + one, x.of(0, 4, 1), 0);
                Scene.stroke(x, 0, 9, other);
                check.due(one + " and " + other, x.of(0, 4, 1), Math.min(one, other));
            }
        }
        ChalkSquares y = new ChalkSquares();
        int[] hues = {7, 7, 6, 6, 5, 5, 4, 4, 3};
        for (int i = 0; i < 9; i++) {
            Scene.stroke(y, 8 + i / 3, 8 + i % 3, hues[i]);
        }
        check.due("four hues with two flags each, one with one", y.of(7, 4, 1), 4);
        y.rub(10, 10);
        check.due("one is bare", y.of(7, 4, 1), 4);
        y.rub(10, 9);
        check.due("two are bare", y.of(7, 4, 1), 0);
        Scene.stroke(y, 10, 9, 7);
        check.due("7 has three flags", y.of(7, 4, 1), 7);
    }

    private void outlines() {
        ChalkSquares x = new ChalkSquares();
        for (int row = 3; row <= 6; row++) {
            x.row(row, 011111100);
        }
        check.due("inside", x.of(4, 4, 4), 0);
        check.due("below one without a hue", x.of(6, 4, 4), 1);
        check.due("above one without a hue", x.of(3, 4, 4), 1);
        check.due("right of one without a hue", x.of(4, 2, 4), 1);
        check.due("at the edge", x.of(4, 7, 4), 1);
        check.due("without a hue itself", x.of(4, 1, 4), 0);
        x.square(4, 5, 0);
        check.due("left of one without a hue", x.of(4, 4, 4), 1);
        check.due("beside it aslant", x.of(5, 4, 4), 0);
        x.square(4, 5, 6);
        check.due("another hue is a hue", x.of(4, 4, 4), 0);
        x.row(7, 011111111);
        check.due("the last row is the edge", x.of(7, 4, 4), 1);
        check.due("below it", x.of(6, 4, 4), 0);
        check.due("nothing is in the picture", x.of(4, 4, 5), 0);
        x.row(0, 011111111);
        x.row(1, 011111111);
        x.row(2, 011111111);
        x.chalk(1, 999);
        x.chalk(6, 99);
        x.draw(0, 15);
        check.due("blind ones do not matter in the sketch", x.of(2, 4, 4), 0);
        check.due("but they are without a hue in the picture", x.of(2, 4, 5), 1);
        check.due("the first row is the edge", x.of(0, 4, 5), 1);
        check.due("blind ones are not of it", x.of(1, 4, 5), 0);
        check.due("inside the picture", x.of(3, 4, 5), 0);
        check.due("at its edge", x.of(3, 7, 5), 1);
        check.due("the outlines differ", x.count(7), 0);
    }

    private void outlineAroundAGap() {
        ChalkSquares x = new ChalkSquares();
        for (int row = 2; row <= 6; row++) {
            x.row(row, 011111111);
        }
        check.due("no gap", x.squares(4, 2), 129);
        x.square(4, 3, 0);
        check.due("both beside it, and the edges", x.squares(4, 2), 1 + 4 + 16 + 128);
        check.due("the one above it", x.squares(5, 2), 1 + 8 + 128);
        check.due("the one below it", x.squares(3, 2), 1 + 8 + 128);
        x.square(4, 3, 7);
        check.due("the gap is closed", x.squares(4, 2), 129);
    }

    private void edgesAreOutline() {
        ChalkSquares x = new ChalkSquares();
        for (int row = 0; row <= 7; row++) {
            x.row(row, 011111111);
        }
        check.due("the first row", x.squares(0, 2), 255);
        for (int row = 1; row <= 6; row++) {
            check.due("the row " + row, x.squares(row, 2), 129);
        }
        check.due("the last row", x.squares(7, 2), 255);
        int[] corners = {0, 7};
        for (int row : corners) {
            for (int column : corners) {
                check.due("a corner", x.of(row, column, 4), 1);
                x.square(row, column, 0);
                check.due("a corner without a hue", x.of(row, column, 4), 0);
            }
        }
        check.due("beside a corner", x.of(0, 1, 4), 1);
        check.due("aslant of a corner", x.of(1, 1, 4), 0);
        check.due("aslant of another", x.of(6, 6, 4), 0);
    }

    // Promise 16
    private void squares() {
        ChalkSquares x = Scene.rowDrawn();
        check.due("right", x.squares(0, 0), 255);
        check.due("none is blind", x.squares(0, 1), 0);
        check.due("the row 1 is blind", x.squares(1, 1), 255);
        check.due("and not right", x.squares(1, 0), 0);
        check.due("the outline of the sketch", x.squares(0, 2), 255);
        check.due("of the picture", x.squares(0, 3), 255);
        x.square(0, 1, 0);
        x.square(0, 7, 2);
        check.due("two are not right", x.squares(0, 0), 255 - 2 - 128);
        check.due("one is not of the outline", x.squares(0, 2), 253);
        check.due("the picture is as it was", x.squares(0, 3), 255);
        check.due("the row 7", x.squares(7, 0), 255);
        check.due("no outline in the row 7", x.squares(7, 2) + x.squares(7, 3), 0);
        x.set(ChalkSquares.MARK, 0);
        check.due("half of it is blind from the side", x.squares(0, 1), 15);
        check.due("and half of seven rows", x.count(5), 36);
    }

    // Promise 17
    private void ofHue() {
        ChalkSquares x = Scene.rowDrawn();
        check.due("chalk", x.ofHue(1, 0), 91);
        check.due("flags", x.ofHue(1, 1), 9);
        check.due("squares", x.ofHue(1, 2), 8);
        check.due("coats", x.ofHue(1, 3), 27);
        check.due("no chalk of 0", x.ofHue(0, 0), 0);
        check.due("bare flags", x.ofHue(0, 1), 247);
        check.due("squares without a hue", x.ofHue(0, 2), 56);
        check.due("no coats of 0", x.ofHue(0, 3), 0);
        x.square(7, 0, 7);
        Scene.stroke(x, 0, 4, 7);
        x.stroke(0, 5, 1);
        check.due("another hue has its coats", x.ofHue(7, 3), 3);
        check.due("one flag is lost, three coats come", x.ofHue(1, 3), 27);
        check.due("eight flags", x.ofHue(1, 1), 8);
        check.due("a square with 7", x.ofHue(7, 2), 1);
        Scene.stroke(x, 0, 0, 7);
        Scene.stroke(x, 15, 15, 7);
        check.due("the first flag and the last one", x.ofHue(7, 3), 9);
    }

    private void coatsOnTheFlagsOfAHue() {
        ChalkSquares x = new ChalkSquares();
        x.set(ChalkSquares.COAT, 9);
        x.chalk(1, 99);
        x.chalk(7, 99);
        for (int line = 0; line <= 15; line++) {
            x.stroke(line, line, line % 2 == 0 ? 1 : 7);
            x.stroke(15, line, 1);
            x.stroke(15, line, 1);
        }
        check.due("flags of 7", x.ofHue(7, 1), 7);
        check.due("coats of 7", x.ofHue(7, 3), 63);
        check.due("flags of 1", x.ofHue(1, 1), 24);
        check.due("coats of 1", x.ofHue(1, 3), 8 * 9 + 16 * 18);
        check.due("bare flags", x.ofHue(0, 1), 256 - 31);
        check.due("no coats of 0", x.ofHue(0, 3), 0);
        check.due("no chalk of 0", x.ofHue(0, 0), 0);
        check.due("flags that are not bare", x.count(3), 31);
    }

    // Promise 18
    private void rains() {
        ChalkSquares x = new ChalkSquares();
        x.rain(5, 3);
        x.rain(5, 4);
        x.rain(6, 1);
        check.due("rains(5)", x.rains(5), 7);
        check.due("rains(6)", x.rains(6), 1);
        check.due("rains(4)", x.rains(4), 0);
        x.pass(5);
        check.due("rains(0) then", x.rains(0), 7);
        check.due("rains(1) then", x.rains(1), 1);
        check.due("rains(5) then", x.rains(5), 0);
        int[] none = {-1, 100, LOWEST, HIGHEST};
        for (int in : none) {
            check.due("rains(" + in + ")", x.rains(in), BAD_VALUE);
        }
    }

    private void rainsOfEachHour() {
        ChalkSquares x = new ChalkSquares();
        int[] hours = {0, 1, 2, 23, 24, 25, 97, 98, 99};
        for (int i = 0; i < hours.length; i++) {
            x.rain(hours[i], 1 + i);
        }
        int next = 0;
        for (int in = 0; in <= 99; in++) {
            boolean rainy = next < hours.length && hours[next] == in;
            check.due("rains(" + in + ")", x.rains(in), rainy ? ++next : 0);
        }
        for (int n = 0; n < 15; n++) {
            x.rain(99, 9);
        }
        check.due("16 rains in one hour", x.rains(99), 9 + 15 * 9);
        check.due("24 rains", x.count(1), 24);
    }

    // Promise 19
    private void count() {
        ChalkSquares x = Scene.rowDrawn();
        x.square(3, 3, 7);
        x.rub(0, 4);
        x.rain(1, 9);
        x.rain(50, 9);
        x.crowd(0, 9, 9, 9);
        Scene.put(x, "h1");
        check.due("rains", x.count(1), 2);
        x.pass(2);
        int[] counts = {2, 1, 1, 0, 47, 8, 9, 0, 9, 1, 14, 8, 8, 3, 1, 10, 2, 6};
        for (int what = 0; what < counts.length; what++) {
            check.due("count(" + what + ")", x.count(what), counts[what]);
        }
        ChalkSquares first = new ChalkSquares();
        first.square(0, 0, 1);
        check.due("the outlines differ in the row 0", first.count(7), 0);
        first.set(ChalkSquares.EYE, 40);
        first.set(ChalkSquares.AWAY, 1);
        check.due("all are blind", first.count(5), 64);
        ChalkSquares y = Scene.rowDrawn();
        check.due("flags that are not bare", y.count(3), 9);
        check.due("right squares", y.count(4), 56);
        check.due("the outline stands", y.count(7), 1);
        y.square(0, 4, 2);
        check.due("a wrong hue does not matter for it", y.count(7), 1);
        check.due("right squares then", y.count(4), 55);
        y.square(2, 2, 2);
        check.due("the outline does not stand", y.count(7), 0);
    }

    private void wrongArguments() {
        ChalkSquares x = Scene.rowDrawn();
        int[] far = {-1, LOWEST, HIGHEST};
        for (int n : far) {
            check.due("at row " + n, x.at(n, 0, 0), NO_SUCH);
            check.due("at column " + n, x.at(0, n, 0), NO_SUCH);
            check.due("at what " + n, x.at(0, 0, n), BAD_VALUE);
            check.due("at both", x.at(n, 0, n), NO_SUCH);
            check.due("of row " + n, x.of(n, 0, 0), NO_SUCH);
            check.due("of column " + n, x.of(0, n, 0), NO_SUCH);
            check.due("of what " + n, x.of(0, 0, n), BAD_VALUE);
            check.due("of both", x.of(0, n, n), NO_SUCH);
            check.due("squares row " + n, x.squares(n, 0), NO_SUCH);
            check.due("squares what " + n, x.squares(0, n), BAD_VALUE);
            check.due("squares both", x.squares(n, n), NO_SUCH);
            check.due("ofHue hue " + n, x.ofHue(n, 0), NO_SUCH);
            check.due("ofHue what " + n, x.ofHue(0, n), BAD_VALUE);
            check.due("ofHue both", x.ofHue(n, n), NO_SUCH);
            check.due("count what " + n, x.count(n), BAD_VALUE);
        }
        check.due("at(16, 0, 6)", x.at(16, 0, 6), NO_SUCH);
        check.due("at(0, 16, 6)", x.at(0, 16, 6), NO_SUCH);
        check.due("at(15, 15, 6)", x.at(15, 15, 6), BAD_VALUE);
        check.due("of(8, 0, 7)", x.of(8, 0, 7), NO_SUCH);
        check.due("of(0, 8, 7)", x.of(0, 8, 7), NO_SUCH);
        check.due("of(7, 7, 7)", x.of(7, 7, 7), BAD_VALUE);
        check.due("squares(8, 4)", x.squares(8, 4), NO_SUCH);
        check.due("squares(7, 4)", x.squares(7, 4), BAD_VALUE);
        check.due("ofHue(8, 4)", x.ofHue(8, 4), NO_SUCH);
        check.due("ofHue(7, 4)", x.ofHue(7, 4), BAD_VALUE);
        check.due("count(18)", x.count(18), BAD_VALUE);
    }

    private void lookingChangesNothing() {
        String before = Whole.of(Scene::busy);
        check.holds("looking changes nothing", before.equals(Whole.of(LookingTest::lookedAt)));
    }

    private static ChalkSquares lookedAt() {
        ChalkSquares x = Scene.busy();
        for (int what = -1; what <= 18; what++) {
            x.at(0, 4, what);
            x.at(15, 8, what);
            x.of(0, 4, what);
            x.of(1, 4, what);
            x.squares(0, what);
            x.ofHue(1, what);
            x.rains(what);
            x.count(what);
        }
        return x;
    }
}
