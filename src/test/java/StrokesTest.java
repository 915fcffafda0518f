/** Promises 5 to 9: chalk, stroke, rub, draw, mend. */
public final class StrokesTest {
    private static final int NO_SUCH = ChalkSquares.NO_SUCH, BAD_VALUE = ChalkSquares.BAD_VALUE;
    private static final int NOT_POSSIBLE = ChalkSquares.NOT_POSSIBLE;
    private static final int LOWEST = Integer.MIN_VALUE, HIGHEST = Integer.MAX_VALUE;

    private final Check check = new Check("StrokesTest");

    public static void main(String[] args) {
        StrokesTest test = new StrokesTest();
        test.chalk();
        test.chalkThatIsThrownAway();
        test.stroke();
        test.coats();
        test.mostCoats();
        test.rub();
        test.rubLeavesTheRest();
        test.draw();
        test.drawRubs();
        test.drawsThoseRowsAlone();
        test.drawUsesChalkUp();
        test.drawWithoutChalk();
        test.drawErrors();
        test.mend();
        test.mendAllOrNone();
        test.mendEachSquare();
        test.mendFromTheBottomOn();
        test.mendRubs();
        test.mendFromTheMark();
        test.mendLooksAtThePicture();
        test.check.end();
    }

    // Promise 5
    private void chalk() {
        ChalkSquares x = new ChalkSquares();
        for (int hue = 1; hue <= 7; hue++) {
            check.due("one stroke of " + hue, x.chalk(hue, 1), 1);
            check.due("ten more of " + hue, x.chalk(hue, 10), 11);
        }
        check.due("988 more", x.chalk(3, 988), 999);
        check.due("one more is thrown away", x.chalk(3, 1), 999);
        check.due("999 of 11", x.chalk(4, 999), 999);
        check.due("what is left", x.ofHue(4, 0), 999);
        check.due("of another hue", x.ofHue(5, 0), 11);
        int[] hues = {0, -1, 8, LOWEST, HIGHEST};
        for (int hue : hues) {
            check.due("no chalk of " + hue, x.chalk(hue, 1), BAD_VALUE);
        }
        int[] strokes = {0, -1, 1000, LOWEST, HIGHEST};
        for (int n : strokes) {
            check.due("no " + n + " strokes", x.chalk(1, n), BAD_VALUE);
        }
        check.due("refused chalk", x.ofHue(1, 0), 11);
    }

    private void chalkThatIsThrownAway() {
        ChalkSquares x = new ChalkSquares();
        check.due("998", x.chalk(1, 998), 998);
        check.due("999", x.chalk(1, 1), 999);
        check.due("one is thrown away", x.chalk(1, 1), 999);
        check.due("a change all the same", x.count(17), 3);
        x.stroke(0, 0, 1);
        check.due("998 are left", x.ofHue(1, 0), 998);
        check.due("all but one are thrown away", x.chalk(1, 999), 999);
        check.due("1 and 998", x.chalk(2, 1), 1);
        check.due("1 and 998", x.chalk(2, 998), 999);
        check.due("2 and 998", x.chalk(3, 2), 2);
        check.due("2 and 998", x.chalk(3, 998), 999);
    }

    // Promise 6
    private void stroke() {
        ChalkSquares x = new ChalkSquares();
        x.chalk(2, 3);
        check.due("stroke(0, 0, 2)", x.stroke(0, 0, 2), 3);
        check.due("its hue", x.at(0, 0, 0), 2);
        check.due("its coats", x.at(0, 0, 1), 3);
        check.due("stroke(15, 15, 2)", x.stroke(15, 15, 2), 3);
        check.due("chalk left", x.ofHue(2, 0), 1);
        check.due("strokes so far", x.count(8), 2);
        check.due("the last one", x.stroke(15, 0, 2), 3);
        check.due("no chalk", x.stroke(15, 0, 2), NOT_POSSIBLE);
        check.due("no chalk of another hue", x.stroke(15, 0, 1), NOT_POSSIBLE);
        int[] none = {-1, 16, LOWEST, HIGHEST};
        for (int n : none) {
            check.due("no row " + n, x.stroke(n, 0, 2), NO_SUCH);
            check.due("no column " + n, x.stroke(0, n, 2), NO_SUCH);
            check.due("no row before no hue", x.stroke(n, 0, 0), NO_SUCH);
        }
        int[] hues = {0, -1, 8, LOWEST, HIGHEST};
        for (int hue : hues) {
            check.due("no hue " + hue, x.stroke(0, 0, hue), BAD_VALUE);
        }
        check.due("refused strokes", x.count(8), 3);
        check.due("changes", x.count(17), 4);
    }

    private void coats() {
        ChalkSquares x = new ChalkSquares();
        x.chalk(1, 50);
        x.chalk(7, 50);
        for (int n = 1; n <= 9; n++) {
            check.due("stroke " + n, x.stroke(4, 4, 1), 3 * n);
        }
        check.due("at most 27", x.stroke(4, 4, 1), 27);
        check.due("a stroke at 27 takes chalk", x.ofHue(1, 0), 40);
        check.due("another hue", x.stroke(4, 4, 7), 3);
        check.due("has the hue", x.at(4, 4, 0), 7);
        x.set(ChalkSquares.COAT, 9);
        check.due("3 and 9", x.stroke(4, 4, 7), 12);
        check.due("and 9", x.stroke(4, 4, 7), 21);
        check.due("and 9, at most 27", x.stroke(4, 4, 7), 27);
        check.due("another hue with 9", x.stroke(4, 4, 1), 9);
        x.set(ChalkSquares.COAT, 1);
        check.due("and 1", x.stroke(4, 4, 1), 10);
    }

    private void mostCoats() {
        for (int coat = 1; coat <= 9; coat++) {
            ChalkSquares x = new ChalkSquares();
            x.set(ChalkSquares.COAT, coat);
            x.chalk(1, 99);
            int coats = 0;
            for (int n = 0; n < 30; n++) {
                coats += coat;
                check.due("coats of " + coat, x.stroke(15, 0, 1), coats > 27 ? 27 : coats);
            }
            check.due("each took chalk", x.ofHue(1, 0), 69);
            check.due("each is counted", x.count(8), 30);
            x.set(ChalkSquares.COAT, 9);
            check.due("27 and 9", x.stroke(15, 0, 1), 27);
        }
    }

    // Promise 7
    private void rub() {
        ChalkSquares x = new ChalkSquares();
        x.chalk(5, 9);
        x.stroke(15, 0, 5);
        x.stroke(15, 0, 5);
        check.due("rub(15, 0)", x.rub(15, 0), 6);
        check.due("no hue", x.at(15, 0, 0), 0);
        check.due("no coats", x.at(15, 0, 1), 0);
        check.due("rubbings", x.count(9), 1);
        check.due("a bare flag", x.rub(15, 0), 0);
        check.due("rubbings count, too", x.count(9), 2);
        check.due("rub(0, 15)", x.rub(0, 15), 0);
        x.stroke(0, 0, 5);
        check.due("rub(0, 0)", x.rub(0, 0), 3);
        check.due("strokes stay", x.count(8), 3);
        int[] none = {-1, 16, LOWEST, HIGHEST};
        for (int n : none) {
            check.due("no row " + n, x.rub(n, 0), NO_SUCH);
            check.due("no column " + n, x.rub(0, n), NO_SUCH);
        }
        check.due("refused rubbings", x.count(9), 4);
    }

    private void rubLeavesTheRest() {
        ChalkSquares x = new ChalkSquares();
        x.awning(3, 4);
        x.crowd(0, 3, 0, 7);
        x.pass(1);
        Scene.stroke(x, 3, 4, 6);
        check.due("rub(3, 4)", x.rub(3, 4), 3);
        check.due("the awning stays", x.at(3, 4, 3), 1);
        check.due("feet stay", x.at(3, 4, 4), 7);
        check.due("chalk does not come back", x.ofHue(6, 0), 0);
        check.due("the next stroke begins anew", x.chalk(6, 1) + x.stroke(3, 4, 6), 4);
    }

    // Promise 8
    private void draw() {
        ChalkSquares x = new ChalkSquares();
        x.row(0, Scene.ROW_OF_ONES);
        x.row(2, 022222222);
        x.chalk(1, 100);
        x.chalk(2, 100);
        check.due("no rows that show it", x.draw(2, 15), 0);
        check.due("the row 1 shows the row 2", x.draw(1, 1), 9);
        check.due("the hue 2", x.at(1, 8, 0), 2);
        check.due("the row 0 is bare yet", x.at(0, 8, 1), 0);
        check.due("the row 0", x.draw(0, 0), 9);
        check.due("all of it is drawn", x.draw(0, 15), 0);
        check.due("a stroke each", x.ofHue(1, 3), 27);
        check.due("strokes so far", x.count(8), 18);
        x.square(0, 4, 3);
        check.due("no chalk of it", x.draw(0, 15), 0);
        x.chalk(3, 9);
        check.due("two flags show it", x.draw(0, 15), 2);
        check.due("another hue, new coats", x.at(0, 9, 1), 3);
        check.due("another hue", x.at(0, 9, 0), 3);
    }

    private void drawRubs() {
        ChalkSquares x = new ChalkSquares();
        x.chalk(4, 9);
        x.stroke(0, 0, 4);
        x.stroke(0, 4, 4);
        x.stroke(15, 15, 4);
        check.due("where none is seen, and a square without a hue", x.draw(0, 14), 2);
        check.due("rubbings", x.count(9), 2);
        check.due("the last row stands", x.at(15, 15, 1), 3);
        check.due("the last row", x.draw(15, 15), 1);
        check.due("all bare", x.count(3), 0);
        check.due("bare flags are not rubbed", x.draw(0, 15), 0);
        check.due("rubbings", x.count(9), 3);
        x.stroke(0, 4, 4);
        x.square(0, 0, 4);
        x.square(0, 1, 5);
        x.stroke(0, 0, 4);
        x.chalk(5, 1);
        check.due("a stroke and a rubbing", x.draw(0, 15), 2);
        check.due("the flag that has it has no coat more", x.at(0, 4, 1), 3);
    }

    private void drawsThoseRowsAlone() {
        ChalkSquares x = new ChalkSquares();
        x.chalk(4, 9);
        x.stroke(3, 15, 4);
        x.stroke(4, 0, 4);
        x.stroke(5, 15, 4);
        x.stroke(6, 0, 4);
        check.due("two flags of the rows 4 and 5", x.draw(4, 5), 2);
        check.due("the row before stays", x.at(3, 15, 1), 3);
        check.due("the row behind stays", x.at(6, 0, 1), 3);
        check.due("the row 3", x.draw(3, 3), 1);
        check.due("the row 6", x.draw(6, 6), 1);
    }

    private void drawUsesChalkUp() {
        ChalkSquares x = new ChalkSquares();
        x.row(0, Scene.ROW_OF_ONES);
        x.row(2, Scene.ROW_OF_ONES);
        x.row(3, 044444444);
        x.chalk(1, 12);
        x.chalk(4, 2);
        check.due("12 strokes and two", x.draw(0, 15), 14);
        check.due("the row 0 first", x.squares(0, 0), 255);
        check.due("then the row 1, from the left", x.squares(2, 0), 7);
        check.due("the first two flags of another hue", x.squares(3, 0), 1);
        check.due("no chalk is left", x.ofHue(1, 0), 0);
        check.due("needs the rest", x.needs(1), 6);
    }

    private void drawWithoutChalk() {
        ChalkSquares x = new ChalkSquares();
        x.square(0, 0, 5);
        Scene.stroke(x, 0, 4, 2);
        check.due("no chalk of the hue", x.draw(0, 15), 0);
        check.due("the hue stays", x.at(0, 4, 0), 2);
        check.due("the coats stay", x.at(0, 4, 1), 3);
        check.due("no rubbing", x.count(9), 0);
        check.due("a change all the same", x.count(17), 4);
        x.square(0, 0, 0);
        check.due("rubbing takes no chalk", x.draw(0, 0), 1);
        check.due("bare", x.at(0, 4, 1), 0);
    }

    private void drawErrors() {
        ChalkSquares x = Scene.rowDrawn();
        int[] none = {-1, 16, LOWEST, HIGHEST};
        for (int n : none) {
            check.due("no first " + n, x.draw(n, 15), BAD_VALUE);
            check.due("no last " + n, x.draw(0, n), BAD_VALUE);
        }
        check.due("last before first", x.draw(5, 4), BAD_VALUE);
        check.due("last before first, at the edge", x.draw(15, 14), BAD_VALUE);
        check.due("first and last the same", x.draw(15, 15), 0);
        check.due("changes", x.count(17), 4);
    }

    // Promise 9
    private void mend() {
        ChalkSquares x = new ChalkSquares();
        x.row(0, Scene.ROW_OF_ONES);
        x.row(1, 033333333);
        x.chalk(1, 100);
        x.chalk(3, 100);
        check.due("eight squares; the row 1 is blind", x.mend(), 8);
        check.due("nine strokes", x.count(8), 9);
        check.due("no chalk for blind ones", x.ofHue(3, 0), 100);
        check.due("right", x.squares(0, 0), 255);
        check.due("nothing is left to mend", x.mend(), 0);
        x.row(0, 011111110);
        check.due("a square without a hue is rubbed", x.mend(), 1);
        check.due("rubbings", x.count(9), 1);
        check.due("strokes", x.count(8), 9);
        check.due("bare", x.at(0, 4, 0), 0);
        Scene.stroke(x, 15, 15, 5);
        check.due("no square is seen through that flag", x.mend(), 0);
        check.due("so it stands", x.at(15, 15, 0), 5);
        check.due("each is a change", x.undo(), 5);
    }

    private void mendAllOrNone() {
        ChalkSquares x = new ChalkSquares();
        x.square(0, 3, 1);
        x.square(0, 4, 2);
        x.square(0, 5, 2);
        check.due("no chalk", x.mend(), 0);
        x.chalk(2, 1);
        check.due("one stroke is for the next square", x.mend(), 1);
        check.due("(0, 4) needs two flags", x.at(0, 8, 0), 0);
        check.due("(0, 5) needs one", x.at(0, 10, 0), 2);
        x.chalk(2, 1);
        check.due("one stroke is too few", x.mend(), 0);
        check.due("it is left", x.ofHue(2, 0), 1);
        x.chalk(2, 1);
        check.due("two suffice", x.mend(), 1);
        check.due("none is left", x.ofHue(2, 0), 0);
        check.due("the first flag", x.at(0, 8, 1), 3);
        check.due("the second flag", x.at(0, 9, 1), 3);
        check.due("strokes so far", x.count(8), 3);
    }

    private void mendEachSquare() {
        ChalkSquares x = new ChalkSquares();
        for (int row = 0; row <= 7; row++) {
            x.row(row, 012345671);
        }
        for (int hue = 1; hue <= 7; hue++) {
            x.chalk(hue, 99);
        }
        check.due("56 squares are not blind", x.mend(), 56);
        check.due("and right then", x.count(4), 56);
        check.due("none is left to draw", x.draw(0, 15), 0);
        check.due("nor to mend", x.mend(), 0);
        x.square(7, 0, 0);
        x.square(7, 7, 2);
        x.square(4, 3, 1);
        check.due("three are not right", x.count(4), 53);
        check.due("three are mended", x.mend(), 3);
        check.due("the last flag of the square (7, 7)", x.at(10, 15, 0), 2);
        check.due("the last flag of the square (7, 0)", x.at(10, 0, 0), 0);
        check.due("none is left to draw", x.draw(0, 15), 0);
    }

    private void mendFromTheBottomOn() {
        ChalkSquares x = new ChalkSquares();
        // The square (7, 4) is seen through nine flags, (2, 4) and (0, 4) through two each.
        x.square(7, 4, 6);
        x.square(2, 4, 6);
        x.square(0, 4, 6);
        x.chalk(6, 2);
        check.due("the lowest square is drawn first", x.mend(), 1);
        check.due("(0, 4)", x.of(0, 4, 3), 1);
        x.chalk(6, 10);
        check.due("then (2, 4); eight are too few for (7, 4)", x.mend(), 1);
        check.due("(2, 4)", x.of(2, 4, 3), 1);
        check.due("eight are left", x.ofHue(6, 0), 8);
        check.due("no flag of it is drawn", x.of(7, 4, 6), 0);
        x.chalk(6, 1);
        check.due("nine suffice", x.mend(), 1);
        check.due("all nine are drawn", x.of(7, 4, 6), 9);
    }

    private void mendRubs() {
        ChalkSquares x = new ChalkSquares();
        x.chalk(1, 3);
        x.stroke(0, 8, 1);
        x.stroke(0, 9, 1);
        x.stroke(0, 5, 1);
        x.square(0, 5, 1);
        check.due("no chalk is left", x.ofHue(1, 0), 0);
        check.due("two squares are rubbed, one has no chalk", x.mend(), 2);
        check.due("three flags", x.count(9), 3);
        check.due("all are bare", x.count(3), 0);
        check.due("no strokes more", x.count(8), 3);
        check.due("now only one is not right", x.count(4), 55);
    }

    private void mendFromTheMark() {
        ChalkSquares x = new ChalkSquares();
        x.set(ChalkSquares.MARK, 4);
        x.row(0, Scene.ROW_OF_ONES);
        x.chalk(1, 8);
        check.due("seven squares with eight flags", x.mend(), 7);
        check.due("the first flag of all", x.at(0, 0, 1), 3);
        check.due("no chalk for the last square", x.squares(0, 0), 127);
    }

    private void mendLooksAtThePicture() {
        ChalkSquares x = new ChalkSquares();
        x.square(0, 4, 2);
        x.chalk(1, 9);
        x.chalk(2, 2);
        x.chalk(3, 9);
        x.stroke(0, 8, 2);
        x.stroke(0, 9, 3);
        check.due("the lower hue of two is the square's", x.mend(), 0);
        check.due("draw would touch it", x.at(0, 9, 5), 1);
        x.stroke(0, 9, 1);
        check.due("now the lower one is another", x.mend(), 1);
        check.due("one flag is drawn, with the last stroke", x.count(8), 4);
        check.due("the other has its coats", x.at(0, 8, 1), 3);
        check.due("both have the hue", x.of(0, 4, 6), 2);
    }
}
