/** Promises 10 to 13: awning, rain, crowd, pass. */
public final class HoursTest {
    private static final int NO_SUCH = ChalkSquares.NO_SUCH, BAD_VALUE = ChalkSquares.BAD_VALUE;
    private static final int TOO_MANY = ChalkSquares.TOO_MANY, NOT_POSSIBLE = ChalkSquares.NOT_POSSIBLE;
    private static final int LOWEST = Integer.MIN_VALUE, HIGHEST = Integer.MAX_VALUE;

    private final Check check = new Check("HoursTest");

    public static void main(String[] args) {
        HoursTest test = new HoursTest();
        test.awning();
        test.rain();
        test.mostRains();
        test.rainThatIsOver();
        test.crowd();
        test.mostCrowds();
        test.waterRunsOn();
        test.waterUnderAwnings();
        test.waterRunsOutUnderAwnings();
        test.washing();
        test.waterOfManyRains();
        test.walking();
        test.eachFlagOfTheWay();
        test.eachFlagWearsOff();
        test.feetAreCountedOn();
        test.feetOnFlagsThatBecomeBare();
        test.fewerFeetTakeACoat();
        test.fewestAndMostFeet();
        test.hoursOfTheDay();
        test.eachHourOfTheDay();
        test.becomingBare();
        test.bareInSeveralHours();
        test.lastHour();
        test.upToTheLastHour();
        test.check.end();
    }

    // Promise 10
    private void awning() {
        ChalkSquares x = new ChalkSquares();
        check.due("awning(0, 15)", x.awning(0, 15), 1);
        check.due("it is there", x.at(0, 15, 3), 1);
        check.due("nowhere else", x.at(15, 0, 3), 0);
        check.due("awning(15, 0)", x.awning(15, 0), 1);
        check.due("it goes", x.awning(0, 15), 0);
        check.due("it is gone", x.at(0, 15, 3), 0);
        check.due("and comes", x.awning(0, 15), 1);
        int[] none = {-1, 16, LOWEST, HIGHEST};
        for (int n : none) {
            check.due("no row " + n, x.awning(n, 0), NO_SUCH);
            check.due("no column " + n, x.awning(0, n), NO_SUCH);
        }
        check.due("changes", x.count(17), 4);
    }

    // Promise 11
    private void rain() {
        ChalkSquares x = new ChalkSquares();
        check.due("rain(0, 1)", x.rain(0, 1), 1);
        check.due("rain(99, 9)", x.rain(99, 9), 2);
        check.due("rain(99, 8)", x.rain(99, 8), 3);
        check.due("rains(0)", x.rains(0), 1);
        check.due("rains(99) add up", x.rains(99), 17);
        check.due("rains(1)", x.rains(1), 0);
        x.pass(1);
        check.due("the first one is gone", x.count(1), 2);
        check.due("rains(98)", x.rains(98), 17);
        check.due("rains(99)", x.rains(99), 0);
        check.due("rain(99, 5)", x.rain(99, 5), 3);
        check.due("rains(99)", x.rains(99), 5);
        int[] hours = {-1, 100, LOWEST, HIGHEST};
        for (int in : hours) {
            check.due("no rain in " + in, x.rain(in, 1), BAD_VALUE);
        }
        int[] strengths = {0, -1, 10, LOWEST, HIGHEST};
        for (int strength : strengths) {
            check.due("no strength " + strength, x.rain(0, strength), BAD_VALUE);
        }
        check.due("refused rains", x.count(1), 3);
    }

    private void mostRains() {
        ChalkSquares x = new ChalkSquares();
        for (int n = 1; n <= 24; n++) {
            check.due("rain " + n, x.rain(n % 2, 9), n);
        }
        check.due("one more", x.rain(5, 1), TOO_MANY);
        check.due("a wrong value first", x.rain(5, 0), BAD_VALUE);
        check.due("a wrong hour first", x.rain(100, 1), BAD_VALUE);
        check.due("twelve add up", x.rains(0), 108);
        check.due("24 stand", x.count(1), 24);
        x.pass(1);
        check.due("twelve are gone", x.count(1), 12);
        check.due("twelve are left", x.rains(0), 108);
        for (int n = 13; n <= 24; n++) {
            check.due("rain " + n + " again", x.rain(3, 1), n);
        }
        check.due("one more", x.rain(3, 1), TOO_MANY);
        check.due("twelve of 1", x.rains(3), 12);
    }

    private void rainThatIsOver() {
        ChalkSquares x = new ChalkSquares();
        x.set(ChalkSquares.COAT, 9);
        x.rain(0, 9);
        x.rain(47, 1);
        x.rain(48, 2);
        x.rain(1, 3);
        x.pass(1);
        check.due("one is over", x.count(1), 3);
        check.due("the next hour is this one", x.rains(0), 3);
        check.due("the hour 47", x.rains(46), 1);
        Scene.stroke(x, 15, 0, 1);
        check.due("46 hours", x.pass(46), 0);
        check.due("3 of 9 are washed off", x.at(15, 0, 1), 6);
        check.due("two are left", x.count(1), 2);
        x.pass(1);
        check.due("1 more", x.at(15, 0, 1), 5);
        check.due("one is left", x.count(1), 1);
        check.due("of the hour 48", x.rains(0), 2);
        x.pass(1);
        check.due("2 more", x.at(15, 0, 1), 3);
        check.due("none is left", x.count(1), 0);
        for (int in = 0; in <= 99; in++) {
            check.due("rains(" + in + ")", x.rains(in), 0);
        }
        x.pass(48);
        x.pass(48);
        check.due("it does not rain again", x.at(15, 0, 1), 3);
    }

    // Promise 12
    private void crowd() {
        ChalkSquares x = new ChalkSquares();
        check.due("crowd(0, 0, 0, 1)", x.crowd(0, 0, 0, 1), 1);
        check.due("crowd(1, 15, 23, 99)", x.crowd(1, 15, 23, 99), 2);
        check.due("the same once more", x.crowd(1, 15, 23, 99), 3);
        int[] far = {-1, LOWEST, HIGHEST};
        for (int n : far) {
            check.due("no way " + n, x.crowd(n, 0, 0, 1), BAD_VALUE);
            check.due("no line " + n, x.crowd(0, n, 0, 1), BAD_VALUE);
            check.due("no hour " + n, x.crowd(0, 0, n, 1), BAD_VALUE);
            check.due("no feet " + n, x.crowd(0, 0, 0, n), BAD_VALUE);
        }
        check.due("no way 2", x.crowd(2, 0, 0, 1), BAD_VALUE);
        check.due("no line 16", x.crowd(0, 16, 0, 1), BAD_VALUE);
        check.due("no hour 24", x.crowd(0, 0, 24, 1), BAD_VALUE);
        check.due("no feet", x.crowd(0, 0, 0, 0), BAD_VALUE);
        check.due("100 feet", x.crowd(0, 0, 0, 100), BAD_VALUE);
        check.due("crowds", x.count(2), 3);
    }

    private void mostCrowds() {
        ChalkSquares x = new ChalkSquares();
        x.set(ChalkSquares.FEET, 99);
        for (int n = 1; n <= 12; n++) {
            check.due("crowd " + n, x.crowd(0, 3, 0, n), n);
        }
        check.due("one more", x.crowd(0, 3, 0, 1), TOO_MANY);
        check.due("a wrong value first", x.crowd(0, 3, 24, 1), BAD_VALUE);
        x.pass(1);
        check.due("all twelve walk", x.at(3, 9, 4), 78);
        check.due("crowds stay", x.count(2), 12);
        x.pass(24);
        check.due("and walk again on the next day", x.at(3, 9, 4), 156 - 99);
    }

    // Promise 13
    private void waterRunsOn() {
        ChalkSquares x = new ChalkSquares();
        x.set(ChalkSquares.COAT, 9);
        int[] rows = {15, 14, 13, 12, 0};
        for (int row : rows) {
            Scene.stroke(x, row, 7, 1);
        }
        x.rain(0, 4);
        check.due("no flag became bare", x.pass(1), 0);
        check.due("4 at the back", x.at(15, 7, 1), 5);
        check.due("4 and 2", x.at(14, 7, 1), 3);
        check.due("4 and 3", x.at(13, 7, 1), 2);
        check.due("4 and 3 (half of 7)", x.at(12, 7, 1), 2);
        check.due("the same in front", x.at(0, 7, 1), 2);
        x.pass(2);
        check.due("then there is no water", x.at(0, 7, 1), 2);
        check.due("hours", x.count(0), 3);
    }

    private void waterUnderAwnings() {
        ChalkSquares x = new ChalkSquares();
        x.set(ChalkSquares.COAT, 9);
        for (int row = 15; row >= 10; row--) {
            Scene.stroke(x, row, 0, 3);
        }
        x.awning(15, 0);
        x.awning(13, 0);
        x.awning(12, 0);
        x.awning(11, 0);
        x.rain(0, 3);
        x.rain(0, 4);
        x.pass(1);
        check.due("none under the last awning", x.at(15, 0, 1), 9);
        check.due("7 in the open", x.at(14, 0, 1), 2);
        check.due("3 run on under an awning", x.at(13, 0, 1), 6);
        check.due("1 runs on", x.at(12, 0, 1), 8);
        check.due("nothing runs on of 1", x.at(11, 0, 1), 9);
        check.due("7 in the open again", x.at(10, 0, 1), 2);
    }

    private void waterRunsOutUnderAwnings() {
        ChalkSquares x = new ChalkSquares();
        x.set(ChalkSquares.COAT, 9);
        for (int row = 0; row <= 14; row++) {
            x.awning(row, 2);
            Scene.stroke(x, row, 2, 1);
        }
        Scene.stroke(x, 15, 2, 1);
        Scene.stroke(x, 15, 1, 1);
        x.rain(0, 8);
        check.due("no flag becomes bare", x.pass(1), 0);
        int[] washed = {0, 0, 0, 0, 0, 0, 0, 0, 0, 0, 0, 0, 1, 2, 4, 8};
        for (int row = 0; row <= 15; row++) {
            check.due("the row " + row, x.at(row, 2, 1), 9 - washed[row]);
        }
        check.due("the last row in another column", x.at(15, 1, 1), 1);
        x.pass(1);
        check.due("no water stays", x.at(12, 2, 1), 8);
    }

    private void washing() {
        ChalkSquares x = new ChalkSquares();
        x.set(ChalkSquares.COAT, 9);
        Scene.stroke(x, 15, 3, 1);
        x.set(ChalkSquares.WASH, 0);
        x.rain(0, 9);
        x.pass(1);
        check.due("washes nothing off", x.at(15, 3, 1), 9);
        x.set(ChalkSquares.WASH, 4);
        x.rain(0, 1);
        x.rain(1, 2);
        check.due("pass(1)", x.pass(1), 0);
        check.due("4 * 1", x.at(15, 3, 1), 5);
        check.due("pass(1)", x.pass(1), 1);
        check.due("at least 0", x.at(15, 3, 1), 0);
        check.due("bare", x.at(15, 3, 0), 0);
        check.due("no rain is left", x.count(1), 0);
    }

    private void waterOfManyRains() {
        ChalkSquares x = new ChalkSquares();
        x.set(ChalkSquares.COAT, 9);
        x.set(ChalkSquares.WASH, 9);
        for (int row = 0; row <= 15; row++) {
            x.chalk(1, 3);
            x.stroke(row, 3, 1);
            x.stroke(row, 3, 1);
            x.stroke(row, 3, 1);
        }
        for (int n = 0; n < 24; n++) {
            x.rain(0, 9);
        }
        check.due("24 add up", x.rains(0), 216);
        check.due("27 coats at least 0", x.pass(1), 16);
        for (int row = 0; row <= 15; row++) {
            check.due("coats", x.at(row, 3, 1), 0);
            check.due("hue", x.at(row, 3, 0), 0);
        }
    }

    private void walking() {
        ChalkSquares x = new ChalkSquares();
        Scene.stroke(x, 4, 0, 1);
        Scene.stroke(x, 4, 15, 1);
        Scene.stroke(x, 5, 15, 1);
        Scene.stroke(x, 15, 6, 1);
        Scene.stroke(x, 15, 5, 1);
        x.crowd(0, 4, 0, 10);
        x.crowd(1, 6, 0, 25);
        x.pass(1);
        check.due("a row, from the first flag", x.at(4, 0, 1), 2);
        check.due("to the last one", x.at(4, 15, 1), 2);
        check.due("not the next row", x.at(5, 15, 1), 3);
        check.due("a column", x.at(15, 6, 1), 1);
        check.due("not the column before", x.at(15, 5, 1), 3);
        check.due("left over in the column", x.at(0, 6, 4), 5);
        check.due("both on one flag", x.at(4, 6, 4), 5);
        check.due("left over in the row", x.at(4, 1, 4), 0);
    }

    private void eachFlagOfTheWay() {
        for (int down = 0; down <= 1; down++) {
            for (int line = 0; line <= 15; line++) {
                ChalkSquares x = new ChalkSquares();
                x.crowd(down, line, 0, 4);
                x.pass(1);
                int trodden = 0;
                int beside = 0;
                for (int flag = 0; flag < 256; flag++) {
                    boolean onTheWay = (down == 0 ? flag / 16 : flag % 16) == line;
                    int feet = x.at(flag / 16, flag % 16, 4);
                    trodden += onTheWay ? feet : 0;
                    beside += onTheWay ? 0 : feet;
                }
                check.due("feet on the way " + down + ", " + line, trodden, 64);
                check.due("feet beside it", beside, 0);
            }
        }
    }

    private void eachFlagWearsOff() {
        for (int flag = 0; flag < 256; flag++) {
            ChalkSquares x = new ChalkSquares();
            x.set(ChalkSquares.COAT, 9);
            Scene.stroke(x, flag / 16, flag % 16, 1);
            x.rain(0, 1);
            x.pass(1);
            check.due("rain on the flag " + flag, x.at(flag / 16, flag % 16, 1), 8);
            x.crowd(flag % 2, flag % 2 == 0 ? flag / 16 : flag % 16, 1, 29);
            x.pass(1);
            check.due("feet on the flag " + flag, x.at(flag / 16, flag % 16, 1), 6);
            x.rain(0, 9);
            check.due("the flag " + flag + " becomes bare", x.pass(1), 1);
        }
    }

    private void feetAreCountedOn() {
        ChalkSquares x = new ChalkSquares();
        x.crowd(0, 2, 0, 6);
        x.pass(1);
        check.due("on a bare flag, too", x.at(2, 2, 4), 6);
        Scene.stroke(x, 2, 2, 4);
        check.due("a stroke leaves them", x.at(2, 2, 4), 6);
        x.pass(24);
        check.due("12 feet take a coat", x.at(2, 2, 1), 2);
        check.due("2 are left over", x.at(2, 2, 4), 2);
        x.rub(2, 2);
        check.due("rubbing leaves them", x.at(2, 2, 4), 2);
        x.pass(24);
        check.due("8 are left over", x.at(2, 2, 4), 8);
    }

    private void feetOnFlagsThatBecomeBare() {
        ChalkSquares x = new ChalkSquares();
        x.set(ChalkSquares.COAT, 1);
        Scene.stroke(x, 9, 9, 1);
        x.crowd(0, 9, 0, 37);
        check.due("the flag becomes bare", x.pass(1), 1);
        check.due("7 are left over, as on a bare one", x.at(9, 9, 4), 7);
        check.due("as on a bare one", x.at(9, 8, 4), 7);
        Scene.stroke(x, 9, 9, 1);
        check.due("7 and 37 take four coats", x.pass(24), 1);
        check.due("4 are left over", x.at(9, 9, 4), 4);
        x.undo();
        check.due("undo brings them back", x.at(9, 9, 4), 7);
    }

    private void fewerFeetTakeACoat() {
        ChalkSquares x = new ChalkSquares();
        x.set(ChalkSquares.COAT, 9);
        Scene.stroke(x, 2, 2, 4);
        x.crowd(0, 2, 0, 9);
        x.crowd(1, 2, 2, 1);
        x.pass(1);
        x.set(ChalkSquares.FEET, 2);
        x.pass(1);
        check.due("nobody walks, nothing is taken", x.at(2, 2, 1), 9);
        check.due("9 feet are still left over", x.at(2, 2, 4), 9);
        x.pass(1);
        check.due("10 feet take five coats", x.at(2, 2, 1), 4);
        check.due("none is left over", x.at(2, 2, 4), 0);
    }

    private void fewestAndMostFeet() {
        ChalkSquares x = new ChalkSquares();
        x.set(ChalkSquares.FEET, 1);
        x.set(ChalkSquares.COAT, 9);
        Scene.stroke(x, 7, 7, 1);
        x.crowd(0, 7, 0, 1);
        x.crowd(0, 7, 1, 99);
        check.due("one foot takes a coat", x.pass(1), 0);
        check.due("8 are left", x.at(7, 7, 1), 8);
        check.due("99 feet take all of them, at least 0", x.pass(1), 1);
        check.due("none is left", x.at(7, 7, 1), 0);
        check.due("no feet are left over", x.at(7, 7, 4), 0);
        ChalkSquares y = new ChalkSquares();
        y.set(ChalkSquares.FEET, 99);
        Scene.stroke(y, 7, 7, 1);
        y.crowd(1, 7, 0, 98);
        y.crowd(1, 7, 1, 1);
        y.crowd(1, 7, 2, 99);
        y.pass(1);
        check.due("98 feet take none", y.at(7, 7, 1), 3);
        check.due("they are left over", y.at(7, 7, 4), 98);
        y.pass(1);
        check.due("one more takes a coat", y.at(7, 7, 1), 2);
        check.due("none is left over", y.at(7, 7, 4), 0);
        y.pass(1);
        check.due("99 take one", y.at(7, 7, 1), 1);
        check.due("none is left over", y.at(7, 7, 4), 0);
    }

    private void hoursOfTheDay() {
        ChalkSquares x = new ChalkSquares();
        x.crowd(0, 0, 23, 3);
        x.pass(23);
        check.due("before the hour 23", x.at(0, 0, 4), 0);
        x.pass(1);
        check.due("behind it", x.at(0, 0, 4), 3);
        x.pass(23);
        check.due("before it on the second day", x.at(0, 0, 4), 3);
        x.pass(1);
        check.due("behind it on the second day", x.at(0, 0, 4), 6);
        x.pass(48);
        check.due("two days at once", x.at(0, 0, 4), 2);
        check.due("hours", x.count(0), 96);
    }

    private void eachHourOfTheDay() {
        for (int hour = 0; hour <= 23; hour++) {
            ChalkSquares x = new ChalkSquares();
            x.crowd(1, 15, hour, 3);
            if (hour > 0) {
                x.pass(hour);
            }
            check.due("before the hour " + hour, x.at(0, 15, 4), 0);
            x.pass(1);
            check.due("behind the hour " + hour, x.at(0, 15, 4), 3);
            x.pass(23);
            check.due("a day later", x.at(0, 15, 4), 3);
            x.pass(1);
            check.due("the same hour again", x.at(0, 15, 4), 6);
            check.due("hours", x.count(0), hour + 25);
        }
    }

    private void becomingBare() {
        ChalkSquares x = new ChalkSquares();
        for (int column = 0; column <= 4; column++) {
            Scene.stroke(x, 15, column, 1);
        }
        x.awning(15, 0);
        x.rain(0, 2);
        x.rain(2, 1);
        x.crowd(0, 15, 1, 10);
        check.due("not in the first hour", x.pass(1), 0);
        check.due("the crowd takes the last coat of four", x.pass(1), 4);
        check.due("bare flags do not become bare", x.pass(1), 0);
        check.due("one is left", x.count(3), 1);
        check.due("2 coats under the awning", x.at(15, 0, 1), 2);
        check.due("two days take them", x.pass(48), 1);
        check.due("all are bare", x.ofHue(0, 1), 256);
    }

    private void bareInSeveralHours() {
        ChalkSquares x = new ChalkSquares();
        for (int column = 0; column <= 5; column++) {
            Scene.stroke(x, 15, column, 1);
        }
        x.crowd(1, 0, 0, 30);
        x.rain(1, 1);
        x.rain(1, 1);
        x.crowd(1, 1, 1, 10);
        x.crowd(1, 2, 1, 99);
        x.crowd(1, 3, 2, 9);
        check.due("one by feet, then two by rain and feet", x.pass(3), 3);
        check.due("three are left", x.count(3), 3);
        check.due("bare flags", x.ofHue(0, 1), 253);
    }

    private void lastHour() {
        ChalkSquares x = new ChalkSquares();
        for (int n = 0; n < 208; n++) {
            x.pass(48);
        }
        check.due("hours", x.count(0), 9984);
        check.due("16 would be one too many", x.pass(16), NOT_POSSIBLE);
        check.due("14", x.pass(14), 0);
        check.due("two are too many", x.pass(2), NOT_POSSIBLE);
        check.due("the last one", x.pass(1), 0);
        check.due("hours", x.count(0), 9999);
        check.due("no more", x.pass(1), NOT_POSSIBLE);
        check.due("a wrong value first", x.pass(49), BAD_VALUE);
        check.due("still 9999", x.count(0), 9999);
        check.due("rain can be told", x.rain(99, 1), 1);
        check.due("and is", x.rains(99), 1);
    }

    private void upToTheLastHour() {
        ChalkSquares x = Scene.atHour(9951);
        x.crowd(0, 5, 14, 4);
        check.due("48 more are 9999", x.pass(48), 0);
        check.due("hours", x.count(0), 9999);
        // The hours 9951 to 9998 are two whole days, and 9998 is the hour 14 of the last one.
        check.due("two days of crowds", x.at(5, 5, 4), 8);
        check.due("undo", x.undo(), 5);
        check.due("hours", x.count(0), 9951);
        x.pass(1);
        check.due("48 more would be 10000", x.pass(48), NOT_POSSIBLE);
        check.due("46", x.pass(46), 0);
        check.due("no crowd yet in the last hour", x.at(5, 5, 4), 4);
        check.due("the last hour", x.pass(1), 0);
        check.due("is the hour 14 of the day", x.at(5, 5, 4), 8);
        check.due("none more", x.pass(1), NOT_POSSIBLE);
    }
}
