/** Promises 26 to 29: put, wipe, fault, carryOut. */
public final class TextsTest {
    private static final int BAD_VALUE = ChalkSquares.BAD_VALUE, BAD_TEXT = ChalkSquares.BAD_TEXT;
    private static final int TOO_MANY = ChalkSquares.TOO_MANY, NONE = ChalkSquares.NONE;

    private final Check check = new Check("TextsTest");

    public static void main(String[] args) {
        TextsTest test = new TextsTest();
        test.put();
        test.putWrong();
        test.codesAtEachPlace();
        test.nothingAtEachPlace();
        test.putTooMany();
        test.putUpToTheEnd();
        test.wipe();
        test.fault();
        test.faultOfNumbers();
        test.carryOut();
        test.carryOutDraw();
        test.carryOutUpToAnError();
        test.firstAndLastOrderRefused();
        test.changesOfTextsAreKeptSix();
        test.carryOutErrors();
        test.carryOutBadText();
        test.carryOutLong();
        test.ordersThatAreTooMany();
        test.check.end();
    }

    // Promise 26
    private void put() {
        ChalkSquares x = new ChalkSquares();
        check.due("one character", x.put('h'), 1);
        check.due("the length", x.count(16), 1);
        check.due("two", x.put(Scene.characters("12")), 3);
        check.due("eight", x.put(Scene.characters(";r10=9;d")), 11);
        check.due("in their order", x.fault(), NONE);
        check.due("the least code", x.put(33), 12);
        check.due("the greatest code", x.put(126), 13);
        check.due("eight of the greatest", x.put(0x7E7E7E7E7E7E7E7EL), 21);
        check.due("no change", x.count(17), 0);
    }

    private void putWrong() {
        ChalkSquares x = Scene.withText("d");
        check.due("no character", x.put(0), BAD_VALUE);
        check.due("32", x.put(32), BAD_VALUE);
        check.due("127", x.put(127), BAD_VALUE);
        check.due("1", x.put(1), BAD_VALUE);
        check.due("255", x.put(255), BAD_VALUE);
        check.due("32 behind d", x.put('d' << 8 | 32), BAD_VALUE);
        check.due("32 before d", x.put(32 << 8 | 'd'), BAD_VALUE);
        check.due("0 behind d", x.put('d' << 8), BAD_VALUE);
        check.due("0 between two", x.put('d' << 16 | 'd'), BAD_VALUE);
        check.due("a bit above 0", x.put(1L << 56 | 'd'), BAD_VALUE);
        check.due("the highest bit above 0", x.put(Long.MIN_VALUE | 'd'), BAD_VALUE);
        check.due("the lowest long", x.put(Long.MIN_VALUE), BAD_VALUE);
        check.due("the highest long", x.put(Long.MAX_VALUE), BAD_VALUE);
        check.due("all bits", x.put(-1), BAD_VALUE);
        check.due("a first character of 255", x.put(0xFF64646464646464L), BAD_VALUE);
        check.due("the pad is as it was", x.count(16), 1);
        check.due("d alone", x.fault(), NONE);
    }

    private void codesAtEachPlace() {
        for (int place = 0; place < 8; place++) {
            long others = 0x6464646464646464L & ~(255L << 8 * place);
            for (int code = 1; code <= 255; code++) {
                boolean stands = code >= 33 && code <= 126;
                ChalkSquares x = new ChalkSquares();
                check.due(code + " at " + place, x.put(others | (long) code << 8 * place), stands ? 8 : BAD_VALUE);
                check.due("the length", x.count(16), stands ? 8 : 0);
            }
        }
    }

    private void nothingAtEachPlace() {
        for (int place = 0; place < 8; place++) {
            long below = (1L << 8 * place) - 1;
            long characters = 0x6464646464646464L & below;
            check.due(place + " characters", new ChalkSquares().put(characters), place == 0 ? BAD_VALUE : place);
            for (int bit = 8 * place + 8; bit < 64; bit++) {
                check.due(place + " characters, nothing, and the bit " + bit,
                    new ChalkSquares().put(characters | 1L << bit), BAD_VALUE);
            }
        }
    }

    private void putTooMany() {
        ChalkSquares x = new ChalkSquares();
        for (int n = 1; n <= 9; n++) {
            check.due("eight more", x.put(Scene.characters("d;d;d;d;")), 8 * n);
        }
        check.due("seven more", x.put(Scene.characters("d;d;d;d")), 79);
        check.due("two would be too many", x.put(Scene.characters(";d")), TOO_MANY);
        check.due("eight would be too many", x.put(Scene.characters(";d;d;d;d")), TOO_MANY);
        check.due("the pad is as it was", x.fault(), NONE);
        check.due("one more", x.put(';'), 80);
        check.due("none more", x.put('d'), TOO_MANY);
        check.due("a wrong one first", x.put(32), BAD_VALUE);
        check.due("no character first", x.put(0), BAD_VALUE);
        check.due("the fault is the length", x.fault(), 80);
        check.due("wipe()", x.wipe(), 80);
        check.due("there is room again", x.put('d'), 1);
    }

    private void putUpToTheEnd() {
        for (int left = 0; left <= 8; left++) {
            for (int more = 1; more <= 8; more++) {
                ChalkSquares x = new ChalkSquares();
                for (int n = 0; n < 9; n++) {
                    x.put(Scene.characters("dddddddd"));
                }
                if (left < 8) {
                    x.put(Scene.characters("dddddddd".substring(left)));
                }
                int due = more <= left ? 80 - left + more : TOO_MANY;
                check.due(more + " where " + left + " are left", x.put(Scene.characters("xxxxxxxx".substring(8 - more))), due);
                check.due("the length", x.count(16), due == TOO_MANY ? 80 - left : due);
            }
        }
    }

    // Promise 27
    private void wipe() {
        ChalkSquares x = Scene.withText("h1;d");
        x.chalk(1, 1);
        check.due("wipe()", x.wipe(), 4);
        check.due("an empty pad", x.wipe(), 0);
        check.due("its length", x.count(16), 0);
        check.due("its fault", x.fault(), 0);
        check.due("no change", x.count(17), 1);
        Scene.put(x, "d");
        check.due("what is put then stands alone", x.fault(), NONE);
    }

    // Promise 28
    private void fault() {
        String[] good = {"d", "h0", "h1", "h999", "r0=0", "r999=9", "k0*0", "k9*999", "f-0@0*0", "f|999@999*999",
            "d;d", "h1;d;r1=1;k1*1;f|1@1*1;d"};
        for (String text : good) {
            check.due(text, Scene.withText(text).fault(), NONE);
        }
        check.due("the empty text", new ChalkSquares().fault(), 0);
        String[] short_ = {"h", "r", "r1", "r1=", "k", "k1", "k1*", "f", "f-", "f-1", "f-1@", "f-1@1", "f|1@1*", "d;",
            "d;h", "f-12@", "h9;", "k3*4;f|"};
        for (String text : short_) {
            check.due(text + " ends too early", Scene.withText(text).fault(), text.length());
        }
        String[] bad = {"x", "1", ";", "D", "dd", "d1", "hh", "h-1", "r=1", "r1*1", "r1=x", "r1=11", "k*1", "k11*1", "k1=1",
            "k1*x", "f1@1*1", "f-@1*1", "f-1*1", "f-1@*1", "f-1@1@1", "f-1@1*x", "f--", "d;;d", "d;x", "h1,d", "d;h1d",
            "f|1@1*1;f/"};
        int[] faults = {0, 0, 0, 0, 1, 1, 1, 1, 1, 2, 3, 4, 1, 2, 2,
            3, 1, 2, 3, 4, 5, 6, 2, 2, 2, 2, 4,
            9};
        for (int i = 0; i < bad.length; i++) {
            check.due(bad[i], Scene.withText(bad[i]).fault(), faults[i]);
        }
    }

    private void faultOfNumbers() {
        check.due("h00", Scene.withText("h00").fault(), 2);
        check.due("h01", Scene.withText("h01").fault(), 2);
        check.due("r05=1", Scene.withText("r05=1").fault(), 2);
        check.due("h1000", Scene.withText("h1000").fault(), 4);
        check.due("h1000x", Scene.withText("h1000x").fault(), 4);
        check.due("h9999", Scene.withText("h9999").fault(), 4);
        check.due("k1*1000", Scene.withText("k1*1000").fault(), 6);
        check.due("k1*007", Scene.withText("k1*007").fault(), 4);
        check.due("f-1000@1*1", Scene.withText("f-1000@1*1").fault(), 5);
        check.due("f-1@0000*1", Scene.withText("f-1@0000*1").fault(), 5);
        check.due("f-1@1*1234", Scene.withText("f-1@1*1234").fault(), 9);
        check.due("h100", Scene.withText("h100").fault(), NONE);
        check.due("h10;d", Scene.withText("h10;d").fault(), NONE);
    }

    // Promise 29
    private void carryOut() {
        ChalkSquares x = Scene.withText("r3=7;r99=9;k7*500;k7*500;f-15@23*99;f|0@0*12;h1");
        check.due("all of them", x.carryOut(), 7);
        check.due("the pad is empty", x.count(16), 0);
        check.due("rain in 3", x.rains(2), 7);
        check.due("rain in 99", x.rains(98), 9);
        check.due("chalk, 999 at most", x.ofHue(7, 0), 999);
        check.due("crowds", x.count(2), 2);
        check.due("hours", x.count(0), 1);
        check.due("a column", x.at(15, 0, 4), 2);
        check.due("not a row", x.at(0, 15, 4), 0);
        check.due("one change", x.count(17), 1);
        x.row(2, 077777777);
        Scene.put(x, "d;h23");
        check.due("d and h", x.carryOut(), 2);
        check.due("drawn", x.count(8), 9);
        check.due("drawn, and washed off in the hour 3", x.count(3), 0);
        check.due("the row of the hour 23", x.at(15, 7, 4), 9);
        check.due("one change more", x.count(17), 3);
        check.due("undone as one", x.undo(), 2);
        check.due("no strokes", x.count(8), 0);
        check.due("hours", x.count(0), 1);
        check.due("undone", x.undo(), 1);
        check.due("the first text, too", x.undo(), 0);
        check.due("no chalk", x.ofHue(7, 0), 0);
        check.due("no rains", x.count(1), 0);
    }

    private void carryOutDraw() {
        ChalkSquares x = new ChalkSquares();
        x.row(0, 022222222);
        x.chalk(2, 99);
        x.stroke(15, 15, 2);
        Scene.put(x, "d");
        check.due("one order", x.carryOut(), 1);
        check.due("it draws from the first row", x.count(8), 10);
        check.due("to the last one", x.count(9), 1);
    }

    private void carryOutUpToAnError() {
        ChalkSquares x = Scene.withText("k1*9;h0;k2*9");
        check.due("one before the error", x.carryOut(), 1);
        check.due("is carried out", x.ofHue(1, 0), 9);
        check.due("those behind it are not", x.ofHue(2, 0), 0);
        check.due("the pad is empty", x.count(16), 0);
        check.due("a change", x.count(17), 1);
        Scene.put(x, "h49;k1*9");
        check.due("none", x.carryOut(), 0);
        check.due("is a change, too", x.count(17), 2);
        check.due("the pad is empty", x.wipe(), 0);
        check.due("undo", x.undo(), 1);
        check.due("the chalk is there yet", x.ofHue(1, 0), 9);
    }

    private void firstAndLastOrderRefused() {
        ChalkSquares x = Scene.withText("h0;k1*1");
        check.due("the first order", x.carryOut(), 0);
        check.due("no chalk", x.ofHue(1, 0), 0);
        check.due("a change", x.count(17), 1);
        Scene.put(x, "k1*1;k2*1;k8*1");
        check.due("the last order", x.carryOut(), 2);
        check.due("those before it stand", x.ofHue(1, 0) + x.ofHue(2, 0), 2);
        check.due("one change", x.count(17), 2);
        check.due("undone together", x.undo(), 1);
        check.due("no chalk", x.ofHue(1, 0) + x.ofHue(2, 0), 0);
        check.due("the pad does not come back", x.count(16), 0);
    }

    private void changesOfTextsAreKeptSix() {
        ChalkSquares x = new ChalkSquares();
        for (int n = 1; n <= 9; n++) {
            Scene.put(x, "k1*1;k1*1;k1*1");
            check.due("three orders", x.carryOut(), 3);
            check.due("changes", x.count(17), Math.min(n, 6));
        }
        for (int left = 5; left >= 0; left--) {
            check.due("undo", x.undo(), left);
            check.due("three strokes less", x.ofHue(1, 0), 9 + 3 * left);
        }
        check.due("no more", x.undo(), ChalkSquares.NOT_POSSIBLE);
    }

    private void carryOutErrors() {
        String[] refused = {"r100=1", "r0=0", "k0*1", "k8*1", "k9*1", "k1*0", "f-16@0*1", "f|0@24*1", "f-0@0*0",
            "f-0@0*100", "h0", "h49", "h999"};
        for (String order : refused) {
            ChalkSquares x = Scene.withText(order);
            check.due(order, x.carryOut(), 0);
            check.due(order + " is one change", x.count(17), 1);
        }
        String[] carried = {"r99=9", "r0=1", "k1*1", "k7*999", "f-15@0*1", "f|0@23*99", "h1", "h48", "d"};
        for (String order : carried) {
            check.due(order, Scene.withText(order).carryOut(), 1);
        }
    }

    private void carryOutBadText() {
        ChalkSquares x = Scene.busy();
        x.wipe();
        check.due("the empty pad", x.carryOut(), BAD_TEXT);
        Scene.put(x, "d;k1*9;h");
        int strokes = x.ofHue(1, 0);
        check.due("a text that ends too early", x.carryOut(), BAD_TEXT);
        check.due("no order is carried out", x.ofHue(1, 0), strokes);
        check.due("no change", x.count(17), 6);
        check.due("the pad stays", x.count(16), 8);
        Scene.put(x, "1");
        check.due("and can be ended", x.carryOut(), 3);
        check.due("nine strokes came", x.ofHue(1, 0), Math.min(strokes + 9, 999));
        Scene.put(x, "d;x");
        check.due("a wrong character", x.carryOut(), BAD_TEXT);
        check.due("the pad stays", x.fault(), 2);
    }

    private void carryOutLong() {
        StringBuilder text = new StringBuilder("d");
        for (int n = 1; n < 40; n++) {
            text.append(";d");
        }
        ChalkSquares x = Scene.withText(text.toString());
        check.due("79 characters", x.count(16), 79);
        check.due("40 orders", x.carryOut(), 40);
        check.due("one change", x.count(17), 1);
        ChalkSquares y = Scene.withText("h1;k1*999;h1;k1*999;h1;k1*999;h1;k1*999;h1;k1*999;h1;k1*999;h1;k1*999;h1;k1*9;d;");
        check.due("80 characters", y.count(16), 80);
        check.due("a text that ends behind ;", y.carryOut(), BAD_TEXT);
        check.due("the fault is the length", y.fault(), 80);
    }

    private void ordersThatAreTooMany() {
        ChalkSquares x = new ChalkSquares();
        for (int n = 0; n < 23; n++) {
            x.rain(50, 1);
        }
        for (int n = 0; n < 11; n++) {
            x.crowd(0, 0, 0, 1);
        }
        Scene.put(x, "r1=1;r1=1;h1");
        check.due("one rain more", x.carryOut(), 1);
        Scene.put(x, "f-0@0*1;f-0@0*1;h1");
        check.due("one crowd more", x.carryOut(), 1);
        check.due("no hour", x.count(0), 0);
        for (int n = 0; n < 208; n++) {
            x.pass(48);
        }
        Scene.put(x, "h14;h2;h1");
        check.due("two hours would be too many", x.carryOut(), 1);
        check.due("hours", x.count(0), 9998);
    }
}
