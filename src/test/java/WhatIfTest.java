/** Promises 20 to 25: from, bestMark, needs, lastsFor, rightIn, bestAwning. */
public final class WhatIfTest {
    private static final int BAD_VALUE = ChalkSquares.BAD_VALUE, NONE = ChalkSquares.NONE;
    private static final int LOWEST = Integer.MIN_VALUE, HIGHEST = Integer.MAX_VALUE;

    private final Check check = new Check("WhatIfTest");

    public static void main(String[] args) {
        WhatIfTest test = new WhatIfTest();
        test.from();
        test.fromIsAsIfSet();
        test.bestMark();
        test.bestMarkIsTheBest();
        test.bestMarkOfAsGoodOnes();
        test.marksBesideThePavement();
        test.needs();
        test.needsIsWhatDrawTakes();
        test.lastsFor();
        test.lastsForOneHour();
        test.rainsAndCrowdsToldLast();
        test.lastsForTwoHundredHours();
        test.lastsThoughMoreAreRightFirst();
        test.rightIn();
        test.rightInTwoDays();
        test.bestAwning();
        test.bestAwningOfSeveral();
        test.bestAwningAtTheEdges();
        test.bestAwningByHours();
        test.bestAwningForTwelveHours();
        test.bestAwningIsTheBest();
        test.bestAwningForFewerHoursThen();
        test.bestAwningWithCrowds();
        test.allAwnings();
        test.boundOfHoursDoesNotMatter();
        test.lookingFromElsewhereFirst();
        test.nothingChanges();
        test.check.end();
    }

    // Promise 20
    private void from() {
        ChalkSquares x = Scene.rowDrawn();
        check.due("from the mark", x.from(14, 8, 8), 56);
        // Four squares are not right, and the rows 1, 4, 5, 6, 7 have 8, 1, 1, 1, 2 blind ones.
        check.due("four columns aside", x.from(14, 8, 4), 47);
        check.due("from(2, 40, 8): one flag of 16 has the hue", x.from(2, 40, 8), 0);
        check.due("the settings stay", x.count(10) * 10000 + x.count(11) * 100 + x.count(12), 140808);
        check.due("and what is seen from the mark", x.count(4), 56);
        ChalkSquares y = new ChalkSquares();
        check.due("from(2, 40, 8)", y.from(2, 40, 8), 8);
        check.due("from(40, 1, 8)", y.from(40, 1, 8), 0);
        check.holds("from(2, 1, 0)", y.from(2, 1, 0) >= 0);
        check.holds("from(40, 40, 15)", y.from(40, 40, 15) >= 0);
        int[] far = {LOWEST, -1, HIGHEST};
        for (int n : far) {
            check.due("eye " + n, y.from(n, 8, 8), BAD_VALUE);
            check.due("away " + n, y.from(14, n, 8), BAD_VALUE);
            check.due("mark " + n, y.from(14, 8, n), BAD_VALUE);
        }
        check.due("eye 1", y.from(1, 8, 8), BAD_VALUE);
        check.due("eye 41", y.from(41, 8, 8), BAD_VALUE);
        check.due("away 0", y.from(14, 0, 8), BAD_VALUE);
        check.due("away 41", y.from(14, 41, 8), BAD_VALUE);
        check.due("mark 16", y.from(14, 8, 16), BAD_VALUE);
    }

    private void fromIsAsIfSet() {
        int[] eyes = {2, 3, 14, 39, 40};
        int[] aways = {1, 2, 8, 39, 40};
        int[] marks = {0, 1, 7, 8, 14, 15};
        for (int eye : eyes) {
            for (int away : aways) {
                for (int mark : marks) {
                    ChalkSquares x = Scene.busy();
                    int right = x.from(eye, away, mark);
                    x.set(ChalkSquares.EYE, eye);
                    x.set(ChalkSquares.AWAY, away);
                    x.set(ChalkSquares.MARK, mark);
                    check.due("from(" + eye + ", " + away + ", " + mark + ")", right, x.count(4));
                }
            }
        }
    }

    // Promise 21
    private void bestMark() {
        ChalkSquares x = new ChalkSquares();
        check.due("the lowest of two", x.bestMark(0), 7);
        check.due("with 56", x.bestMark(1), 56);
        ChalkSquares y = Scene.rowDrawn();
        check.due("where it was drawn", y.bestMark(0), 8);
        check.due("with all", y.bestMark(1), 56);
        y.set(ChalkSquares.MARK, 3);
        check.due("the mark does not matter", y.bestMark(0), 8);
        y.set(ChalkSquares.EYE, 2);
        y.set(ChalkSquares.AWAY, 40);
        y.row(0, 0);
        check.due("but the eye does, and how far it is", y.bestMark(1), 8);
        ChalkSquares z = new ChalkSquares();
        z.set(ChalkSquares.MARK, 6);
        z.row(0, Scene.ROW_OF_ONES);
        z.chalk(1, 99);
        z.draw(0, 15);
        check.due("from 6 one more is blind, from 7 one is not right", z.bestMark(0), 6);
        check.due("55", z.bestMark(1), 55);
        ChalkSquares edge = new ChalkSquares();
        edge.set(ChalkSquares.MARK, 0);
        for (int row = 0; row <= 7; row++) {
            edge.row(row, 043211765);
        }
        for (int hue = 1; hue <= 4; hue++) {
            edge.chalk(hue, 99);
        }
        edge.draw(0, 15);
        check.due("the first column", edge.bestMark(0), 0);
        check.due("the right half of seven rows", edge.bestMark(1), 28);
        int[] none = {-1, 2, LOWEST, HIGHEST};
        for (int what : none) {
            check.due("bestMark(" + what + ")", z.bestMark(what), BAD_VALUE);
        }
    }

    private void bestMarkIsTheBest() {
        for (int mark = 0; mark <= 15; mark++) {
            ChalkSquares x = new ChalkSquares();
            x.set(ChalkSquares.MARK, mark);
            for (int row = 0; row <= 7; row++) {
                x.row(row, 043215671 + row);
            }
            for (int hue = 1; hue <= 7; hue++) {
                x.chalk(hue, 99);
            }
            x.draw(0, 15);
            int best = 0;
            for (int other = 0; other <= 15; other++) {
                best = x.from(14, 8, other) > x.from(14, 8, best) ? other : best;
            }
            check.due("the best mark of what was drawn from " + mark, x.bestMark(0), best);
            check.due("what is right from there", x.bestMark(1), x.from(14, 8, best));
        }
    }

    private void bestMarkOfAsGoodOnes() {
        ChalkSquares x = new ChalkSquares();
        x.set(ChalkSquares.EYE, 40);
        x.set(ChalkSquares.AWAY, 1);
        check.due("no square is right from anywhere", x.bestMark(1), 0);
        check.due("so the lowest one", x.bestMark(0), 0);
        ChalkSquares y = new ChalkSquares();
        for (int row = 0; row <= 7; row++) {
            y.row(row, 011111111);
        }
        check.due("nothing is drawn", y.bestMark(1), 0);
        check.due("so the lowest one", y.bestMark(0), 0);
    }

    /** A picture that stands upright from the column 16, or -1, alone: there is no such mark. */
    private void marksBesideThePavement() {
        int[] marks = {16, -1};
        for (int mark : marks) {
            ChalkSquares x = new ChalkSquares();
            for (int row = 0; row <= 7; row++) {
                x.row(row, 076543217 + row);
            }
            for (int hue = 1; hue <= 7; hue++) {
                x.chalk(hue, 99);
            }
            for (int flag = 0; flag < 256; flag++) {
                int g = 2 * (8 + flag / 16) + 1;
                int row = 28 * (g - 16) / g / 2;
                int column = Math.floorDiv(Math.floorDiv(2 * (flag % 16 - mark) * 16, g) + 8, 2);
                if (row <= 7 && column >= 0 && column <= 7) {
                    x.stroke(flag / 16, flag % 16, x.of(row, column, 0));
                }
            }
            int best = 0;
            for (int other = 0; other <= 15; other++) {
                best = x.from(14, 8, other) > x.from(14, 8, best) ? other : best;
            }
            check.due("the best mark beside " + mark, x.bestMark(0), best);
            check.due("what is right from there", x.bestMark(1), x.from(14, 8, best));
        }
    }

    // Promise 22
    private void needs() {
        ChalkSquares x = new ChalkSquares();
        x.row(0, Scene.ROW_OF_ONES);
        x.row(1, 022222222);
        check.due("nine flags, without chalk", x.needs(1), 9);
        check.due("none for blind squares", x.needs(2), 0);
        Scene.stroke(x, 0, 8, 1);
        check.due("one has it", x.needs(1), 8);
        Scene.stroke(x, 0, 9, 2);
        check.due("another hue does not count", x.needs(1), 8);
        x.square(0, 4, 7);
        check.due("the hue 7", x.needs(7), 2);
        check.due("two less", x.needs(1), 7);
        check.due("rubbings are no strokes", x.needs(2), 0);
        x.set(ChalkSquares.MARK, 4);
        check.due("from the mark 4 the first flag counts, too", x.needs(1), 6);
        int[] none = {0, -1, 8, LOWEST, HIGHEST};
        for (int hue : none) {
            check.due("needs(" + hue + ")", x.needs(hue), BAD_VALUE);
        }
    }

    private void needsIsWhatDrawTakes() {
        for (int hue = 1; hue <= 7; hue++) {
            ChalkSquares x = Scene.busy();
            for (int row = 0; row <= 7; row++) {
                x.row(row, 076543210 >> 3 * (row % 3));
            }
            int needed = x.needs(hue);
            x.chalk(hue, 900);
            int before = x.ofHue(hue, 0);
            x.draw(0, 15);
            check.due("strokes of " + hue, before - x.ofHue(hue, 0), needed);
            check.due("none is needed then", x.needs(hue), 0);
        }
    }

    // Promise 23
    private void lastsFor() {
        ChalkSquares x = Scene.rowDrawn();
        check.due("nothing wears it off", x.lastsFor(), NONE);
        x.rain(9, 9);
        check.due("rain in the tenth hour", x.lastsFor(), 10);
        x.rain(5, 3);
        check.due("3 of strength are 5 of water in the sixth hour", x.lastsFor(), 6);
        x.crowd(1, 12, 0, 29);
        check.due("two coats are not all", x.lastsFor(), 6);
        x.crowd(1, 12, 0, 1);
        check.due("three are, in the first hour", x.lastsFor(), 1);
        x.pass(1);
        check.due("now one less is right, and five hours are left", x.lastsFor(), 5);
        ChalkSquares y = new ChalkSquares();
        Scene.stroke(y, 15, 15, 1);
        y.rain(0, 9);
        check.due("a flag that shows nothing does not matter", y.lastsFor(), NONE);
    }

    private void lastsForOneHour() {
        ChalkSquares x = Scene.rowDrawn();
        x.rain(0, 9);
        check.due("rain in this hour", x.lastsFor(), 1);
        x.pass(1);
        check.due("it is over, and fewer can not be right", x.lastsFor(), NONE);
        check.due("all are bare", x.count(3), 0);
        x.row(0, 0);
        check.due("all that are not blind are right", x.count(4), 56);
        check.due("and stay so", x.lastsFor(), NONE);
    }

    /** The last rain and the last crowd that can be told count as the first ones do. */
    private void rainsAndCrowdsToldLast() {
        ChalkSquares x = Scene.rowDrawn();
        for (int n = 0; n < 23; n++) {
            x.rain(99, 1);
        }
        for (int n = 0; n < 11; n++) {
            x.crowd(0, 15, 0, 1);
        }
        check.due("nothing touches the picture for 99 hours", x.lastsFor(), 100);
        x.crowd(0, 0, 3, 30);
        check.due("the twelfth crowd does", x.lastsFor(), 4);
        check.due("behind three hours", x.rightIn(3), 56);
        check.due("behind four hours", x.rightIn(4), 48);
        x.rain(1, 3);
        check.due("the 24th rain does", x.lastsFor(), 2);
        check.due("behind two hours", x.rightIn(2), 48);
        check.due("one awning saves 1 of 3 coats", x.bestAwning(2, 1), 1);
        check.due("not from the crowd", x.bestAwning(4, 1), 0);
    }

    private void lastsForTwoHundredHours() {
        ChalkSquares x = new ChalkSquares();
        x.set(ChalkSquares.COAT, 9);
        x.square(0, 0, 1);
        Scene.stroke(x, 0, 4, 1);
        x.crowd(0, 0, 8, 10);
        check.due("the ninth coat goes in the hour 201", x.lastsFor(), NONE);
        x.pass(1);
        check.due("200 hours from the hour 1", x.lastsFor(), 200);
        x.pass(48);
        check.due("48 later", x.lastsFor(), 152);
    }

    private void lastsThoughMoreAreRightFirst() {
        ChalkSquares x = new ChalkSquares();
        x.square(0, 0, 1);
        x.square(0, 1, 2);
        Scene.stroke(x, 0, 4, 1);
        Scene.stroke(x, 0, 5, 2);
        Scene.stroke(x, 0, 5, 2);
        x.set(ChalkSquares.COAT, 1);
        Scene.stroke(x, 0, 12, 5);
        x.crowd(1, 12, 0, 10);
        x.crowd(1, 4, 1, 30);
        x.crowd(1, 5, 2, 30);
        check.due("right now", x.rightIn(0), 55);
        check.due("one more", x.rightIn(1), 56);
        check.due("as many", x.rightIn(2), 55);
        check.due("one less", x.rightIn(27), 54);
        check.due("fewer than now", x.lastsFor(), 27);
    }

    // Promise 24
    private void rightIn() {
        ChalkSquares x = Scene.rowDrawn();
        x.rain(5, 3);
        x.crowd(0, 0, 23, 99);
        check.due("now", x.rightIn(0), 56);
        check.due("behind five hours", x.rightIn(5), 56);
        check.due("behind six hours", x.rightIn(6), 48);
        check.due("behind two days", x.rightIn(48), 48);
        check.due("hours so far", x.count(0), 0);
        int[] none = {-1, 49, LOWEST, HIGHEST};
        for (int hours : none) {
            check.due("rightIn(" + hours + ")", x.rightIn(hours), BAD_VALUE);
        }
    }

    private void rightInTwoDays() {
        ChalkSquares x = Scene.rowDrawn();
        x.crowd(0, 0, 23, 15);
        check.due("3 coats less 1", x.rightIn(24), 56);
        check.due("behind 47 hours", x.rightIn(47), 56);
        check.due("behind 48 hours 2 less 2", x.rightIn(48), 48);
        check.due("the first time", x.lastsFor(), 48);
        check.due("coats now", x.at(0, 4, 1), 3);
        check.due("feet now", x.at(0, 4, 4), 0);
        x.pass(1);
        check.due("behind 46 hours", x.rightIn(46), 56);
        check.due("behind 47 hours", x.rightIn(47), 48);
        x.rain(46, 2);
        check.due("2 of rain are 3 of water, but in the same hour", x.rightIn(46), 56);
        x.rain(45, 2);
        check.due("an hour before", x.rightIn(46), 48);
        check.due("not two", x.rightIn(45), 56);
    }

    // Promise 25
    private void bestAwning() {
        ChalkSquares x = new ChalkSquares();
        Scene.stroke(x, 5, 5, 1);
        check.due("without rain the first flag", x.bestAwning(1, 0), 0);
        check.due("all coats stay", x.bestAwning(1, 1), 3);
        x.rain(0, 2);
        check.due("over the flag", x.bestAwning(1, 0), 16 * 5 + 5);
        check.due("1 of water comes from behind", x.bestAwning(1, 1), 2);
        x.awning(5, 5);
        check.due("over the flag behind", x.bestAwning(1, 0), 16 * 6 + 5);
        check.due("no water comes", x.bestAwning(1, 1), 3);
        x.awning(5, 5);
        check.due("as before", x.bestAwning(12, 1), 2);
        int[] far = {0, -1, 13, LOWEST, HIGHEST};
        for (int hours : far) {
            check.due("hours " + hours, x.bestAwning(hours, 0), BAD_VALUE);
        }
        int[] none = {-1, 2, LOWEST, HIGHEST};
        for (int what : none) {
            check.due("what " + what, x.bestAwning(1, what), BAD_VALUE);
        }
    }

    private void bestAwningOfSeveral() {
        ChalkSquares x = new ChalkSquares();
        Scene.stroke(x, 1, 2, 1);
        Scene.stroke(x, 0, 9, 1);
        x.rain(0, 1);
        check.due("the first one row by row", x.bestAwning(1, 0), 9);
        check.due("one coat is saved", x.bestAwning(1, 1), 5);
        Scene.stroke(x, 0, 4, 1);
        check.due("the first one of the row", x.bestAwning(1, 0), 4);
        x.awning(0, 4);
        check.due("that has none yet", x.bestAwning(1, 0), 9);
        x.awning(0, 9);
        check.due("nor that", x.bestAwning(1, 0), 18);
        x.awning(1, 2);
        check.due("nothing more to save: the first flag", x.bestAwning(1, 0), 0);
        x.awning(0, 0);
        check.due("the first flag that has none", x.bestAwning(1, 0), 1);
    }

    private void bestAwningAtTheEdges() {
        ChalkSquares x = new ChalkSquares();
        Scene.stroke(x, 15, 15, 1);
        Scene.stroke(x, 0, 0, 1);
        x.rain(0, 1);
        check.due("the first column", x.bestAwning(1, 0), 0);
        check.due("all coats but one", x.bestAwning(1, 1), 5);
        x.awning(0, 0);
        check.due("the last column, the last row", x.bestAwning(1, 0), 255);
        check.due("all coats", x.bestAwning(1, 1), 6);
    }

    private void bestAwningByHours() {
        ChalkSquares x = new ChalkSquares();
        x.set(ChalkSquares.COAT, 9);
        Scene.stroke(x, 0, 9, 1);
        Scene.stroke(x, 0, 9, 1);
        Scene.stroke(x, 0, 9, 1);
        x.rain(3, 9);
        x.rain(11, 1);
        check.due("before the rain", x.bestAwning(3, 0), 0);
        check.due("before the rain", x.bestAwning(3, 1), 27);
        check.due("behind the rain", x.bestAwning(4, 0), 9);
        check.due("8 of 17 of water come from behind", x.bestAwning(4, 1), 19);
        check.due("the last rain brings none from behind", x.bestAwning(12, 1), 19);
        x.set(ChalkSquares.WASH, 2);
        check.due("twice as much is washed off", x.bestAwning(12, 1), 11);
        x.pass(4);
        check.due("too late for the first rain: 27 - 27", x.bestAwning(8, 1), 0);
    }

    private void bestAwningForTwelveHours() {
        ChalkSquares x = new ChalkSquares();
        Scene.stroke(x, 15, 15, 1);
        x.rain(11, 1);
        check.due("the rain is the twelfth hour", x.bestAwning(11, 0), 0);
        check.due("nothing is washed off before", x.bestAwning(11, 1), 3);
        check.due("behind it the awning is over the flag", x.bestAwning(12, 0), 255);
        check.due("and nothing is washed off", x.bestAwning(12, 1), 3);
        x.crowd(1, 15, 11, 20);
        check.due("nobody walks before the hour 11", x.bestAwning(11, 1), 3);
        check.due("two coats are taken in it", x.bestAwning(12, 1), 1);
        x.pass(11);
        check.due("now it is this hour", x.bestAwning(1, 0), 255);
        check.due("with the crowd", x.bestAwning(1, 1), 1);
    }

    private void bestAwningIsTheBest() {
        for (int hours = 1; hours <= 12; hours++) {
            int best = NONE;
            int most = NONE;
            for (int flag = 0; flag < 256; flag++) {
                ChalkSquares x = washed();
                if (x.awning(flag / 16, flag % 16) == 1) {
                    x.pass(hours);
                    int coats = x.ofHue(1, 3) + x.ofHue(2, 3);
                    if (coats > most) {
                        best = flag;
                        most = coats;
                    }
                }
            }
            check.due("the best awning for " + hours + " hours", washed().bestAwning(hours, 0), best);
            check.due("what it leaves", washed().bestAwning(hours, 1), most);
        }
    }

    private void bestAwningForFewerHoursThen() {
        ChalkSquares x = new ChalkSquares();
        Scene.stroke(x, 4, 7, 1);
        x.rain(1, 1);
        x.rain(11, 2);
        check.due("for twelve hours", x.bestAwning(12, 0), 16 * 4 + 7);
        check.due("1 of 3 of water comes from behind", x.bestAwning(12, 1), 2);
        check.due("for two hours", x.bestAwning(2, 1), 3);
        check.due("the awning matters", x.bestAwning(2, 0), 16 * 4 + 7);
        check.due("for one hour it does not", x.bestAwning(1, 0), 0);
        check.due("no rain yet", x.bestAwning(1, 1), 3);
        x.pass(2);
        check.due("and no more", x.bestAwning(9, 1), 2);
        check.due("and no more", x.bestAwning(9, 0), 0);
    }

    /** Two columns and a row of flags with coats, some awnings, rain in each hour and two crowds. */
    private static ChalkSquares washed() {
        ChalkSquares x = new ChalkSquares();
        x.set(ChalkSquares.COAT, 9);
        x.chalk(1, 99);
        x.chalk(2, 99);
        for (int line = 0; line <= 15; line++) {
            x.stroke(line, 4, 1);
            x.stroke(line, 11, 2);
            x.stroke(line, 11, 2);
            x.stroke(6, line, 1);
        }
        x.awning(9, 4);
        x.awning(6, 11);
        x.awning(0, 0);
        x.crowd(1, 4, 1, 24);
        x.crowd(0, 6, 3, 17);
        for (int hour = 0; hour < 12; hour++) {
            x.rain(hour, 1 + 5 * hour % 3);
        }
        return x;
    }

    private void bestAwningWithCrowds() {
        ChalkSquares x = new ChalkSquares();
        Scene.stroke(x, 0, 1, 1);
        Scene.stroke(x, 0, 9, 1);
        x.rain(0, 1);
        check.due("the first one", x.bestAwning(2, 0), 1);
        x.crowd(1, 1, 1, 30);
        check.due("the crowd has not walked", x.bestAwning(1, 0), 1);
        check.due("what the crowd takes anyway is not saved", x.bestAwning(2, 0), 9);
        check.due("the coats of the other", x.bestAwning(2, 1), 3);
        x.crowd(1, 9, 1, 9);
        check.due("nine feet take none", x.bestAwning(2, 1), 3);
        x.set(ChalkSquares.FEET, 9);
        check.due("now they take one", x.bestAwning(2, 1), 2);
    }

    private void allAwnings() {
        ChalkSquares x = new ChalkSquares();
        for (int flag = 0; flag < 255; flag++) {
            x.awning(flag / 16, flag % 16);
        }
        check.due("the last flag", x.bestAwning(1, 0), 255);
        check.due("no coats", x.bestAwning(1, 1), 0);
        x.awning(15, 15);
        check.due("all have one", x.bestAwning(1, 0), NONE);
        check.due("all have one", x.bestAwning(12, 1), NONE);
        check.due("wrong hours first", x.bestAwning(13, 0), BAD_VALUE);
        check.due("wrong what first", x.bestAwning(1, 2), BAD_VALUE);
        x.awning(7, 3);
        check.due("one has none", x.bestAwning(1, 0), 16 * 7 + 3);
    }

    private void boundOfHoursDoesNotMatter() {
        ChalkSquares x = new ChalkSquares();
        for (int n = 0; n < 208; n++) {
            x.pass(48);
        }
        x.pass(15);
        x.row(0, Scene.ROW_OF_ONES);
        x.chalk(1, 100);
        x.draw(0, 0);
        x.rain(5, 3);
        check.due("hours", x.count(0), 9999);
        check.due("lastsFor()", x.lastsFor(), 6);
        check.due("rightIn(6)", x.rightIn(6), 48);
        check.due("rightIn(48)", x.rightIn(48), 48);
        check.due("bestAwning(12, 0)", x.bestAwning(12, 0), 4);
        check.due("3 - 2 coats", x.bestAwning(12, 1), 1);
        check.due("hours", x.count(0), 9999);
    }

    /** Each answer is the same whether something was looked at before from here, from elsewhere, or not at all. */
    private void lookingFromElsewhereFirst() {
        Call[] calls = {new Call("at", 0, 4, 2), new Call("at", 0, 4, 5), new Call("at", 0, 13, 5), new Call("of", 0, 4, 1),
            new Call("of", 0, 4, 2), new Call("of", 0, 4, 3), new Call("of", 0, 4, 5), new Call("of", 0, 4, 6),
            new Call("squares", 0, 0), new Call("squares", 1, 1), new Call("squares", 0, 3), new Call("count", 4),
            new Call("count", 5), new Call("count", 7), new Call("needs", 2), new Call("lastsFor"), new Call("rightIn", 1),
            new Call("bestMark", 0), new Call("draw", 0, 15), new Call("mend"), new Call("carryOut")};
        int[] due = {0, 0, 1, 1,
            2, 1, 1, 2,
            247, 255, 255, 55,
            8, 1, 1, 1, 48,
            8, 2, 1, 1};
        for (int i = 0; i < calls.length; i++) {
            check.due(calls[i] + " at first", calls[i].on(rowToLookAt()), due[i]);
            ChalkSquares fromElsewhere = rowToLookAt();
            fromElsewhere.from(40, 1, 0);
            check.due(calls[i] + " then", calls[i].on(fromElsewhere), due[i]);
            ChalkSquares otherBefore = rowToLookAt();
            otherBefore.set(ChalkSquares.MARK, 0);
            otherBefore.bestMark(0);
            otherBefore.set(ChalkSquares.MARK, 8);
            check.due(calls[i] + " then", calls[i].on(otherBefore), due[i]);
        }
    }

    private static ChalkSquares rowToLookAt() {
        ChalkSquares x = Scene.rowDrawn();
        x.square(0, 3, 2);
        Scene.stroke(x, 0, 13, 3);
        x.chalk(2, 9);
        x.rain(0, 4);
        x.put('d');
        return x;
    }

    private void nothingChanges() {
        String before = Whole.of(Scene::busy);
        check.holds("what if changes nothing", before.equals(Whole.of(WhatIfTest::askedWhatIf)));
    }

    private static ChalkSquares askedWhatIf() {
        ChalkSquares x = Scene.busy();
        for (int n = -1; n <= 49; n++) {
            x.needs(n);
            x.rightIn(n);
            x.bestMark(n);
        }
        for (int n = 0; n <= 13; n++) {
            x.bestAwning(n, 0);
            x.bestAwning(n, 1);
        }
        x.from(40, 1, 0);
        x.from(2, 40, 15);
        x.lastsFor();
        return x;
    }
}
