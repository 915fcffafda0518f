/** The fault of the pad (promise 28): each place of a text, each character that cannot stand there, and each early end. */
public final class GrammarTest {
    private static final int NONE = ChalkSquares.NONE;
    private static final String DIGITS = "0123456789";
    private static final String ORDERS = "rkfdh";

    private final Check check = new Check("GrammarTest");

    public static void main(String[] args) {
        GrammarTest test = new GrammarTest();
        test.rain();
        test.chalk();
        test.crowd();
        test.drawing();
        test.hours();
        test.laterOrders();
        test.emptyText();
        test.atTheEndOfThePad();
        test.firstFaultCounts();
        test.check.end();
    }

    private void rain() {
        place("", ORDERS, "d");
        place("r", DIGITS, "");
        numberBefore("r", '=');
        place("r1=", DIGITS, DIGITS);
        place("r0=0", ";", "");
        place("r999=9", ";", "");
    }

    private void chalk() {
        place("k", DIGITS, "");
        place("k0", "*", "");
        place("k1", "*", "");
        place("k9", "*", "");
        place("k1*", DIGITS, DIGITS);
        numberAtTheEnd("k7*");
    }

    private void crowd() {
        place("f", "-|", "");
        place("f-", DIGITS, "");
        place("f|", DIGITS, "");
        numberBefore("f-", '@');
        numberBefore("f|", '@');
        place("f-1@", DIGITS, "");
        numberBefore("f|15@", '*');
        place("f|999@999*", DIGITS, DIGITS);
        numberAtTheEnd("f-0@0*");
        numberAtTheEnd("f|10@20*");
    }

    private void drawing() {
        place("d", ";", "");
    }

    private void hours() {
        place("h", DIGITS, DIGITS);
        numberAtTheEnd("h");
    }

    private void laterOrders() {
        String[] before = {"d;", "h1;", "h100;", "r0=0;", "k1*0;", "f-0@0*0;", "d;d;d;"};
        for (String text : before) {
            place(text, ORDERS, "d");
            place(text + "d", ";", "");
            place(text + "h", DIGITS, DIGITS);
            place(text + "r99", DIGITS + "=", "");
            place(text + "f|1@999", "*", "");
        }
    }

    private void emptyText() {
        check.due("the fault of the empty text", new ChalkSquares().fault(), 0);
        ChalkSquares wiped = Scene.withText("d");
        wiped.wipe();
        check.due("the fault of a text that was wiped", wiped.fault(), 0);
        wiped.put(';');
        check.due("the fault of ;", wiped.fault(), 0);
    }

    private void atTheEndOfThePad() {
        StringBuilder orders = new StringBuilder();
        while (orders.length() < 76) {
            orders.append("d;");
        }
        place(orders + "h99", DIGITS + ";", DIGITS);
        place(orders + "h10", DIGITS + ";", DIGITS);
        place(orders + "d;r", DIGITS, "");
        place(orders + "k1*", DIGITS, DIGITS);
        place(orders + "d;d", ";", "");
        place(orders + "d;", ORDERS, "d");
        check.due("80 characters without a fault", Scene.withText(orders + "h100").fault(), NONE);
        check.due("79 characters without a fault", Scene.withText(orders + "d;d").fault(), NONE);
    }

    private void firstFaultCounts() {
        check.due("two faults", Scene.withText("h1000;x").fault(), 4);
        check.due("a fault and an early end", Scene.withText("dd;h").fault(), 1);
        check.due("a fault in the second order", Scene.withText("h999;h999h;x").fault(), 9);
        check.due("values that no call takes are no fault", Scene.withText("h0;h999;k0*0;r999=0;f|16@24*0").fault(), NONE);
    }

    /** A number of one, two and three digits that a sign has to follow. */
    private void numberBefore(String start, char sign) {
        place(start + "0", "" + sign, "");
        place(start + "1", DIGITS + sign, "");
        place(start + "9", DIGITS + sign, "");
        place(start + "10", DIGITS + sign, "");
        place(start + "99", DIGITS + sign, "");
        place(start + "100", "" + sign, "");
        place(start + "999", "" + sign, "");
    }

    /** A number of one, two and three digits that may be the end of an order. */
    private void numberAtTheEnd(String start) {
        place(start + "0", ";", "");
        place(start + "1", DIGITS + ";", DIGITS);
        place(start + "9", DIGITS + ";", DIGITS);
        place(start + "10", DIGITS + ";", DIGITS);
        place(start + "99", DIGITS + ";", DIGITS);
        place(start + "100", ";", "");
        place(start + "999", ";", "");
    }

    /**
     * Looks at each character behind the start of a text: at those that can stand there, some of which make the text
     * whole, while it ends too early behind the others, and at those that cannot.
     */
    private void place(String start, String canStand, String makeWhole) {
        for (char sign = 33; sign <= 126; sign++) {
            String text = start + sign;
            int due = start.length();
            if (makeWhole.indexOf(sign) >= 0) {
                due = NONE;
            } else if (canStand.indexOf(sign) >= 0) {
                due = text.length();
            }
            check.due("the fault of " + text, Scene.withText(text).fault(), due);
            if (due == start.length() && text.length() < 80) {
                check.due("the fault of " + text + "d", Scene.withText(text + "d").fault(), due);
            }
        }
    }
}
