/** Objects to begin a test with. From the first mark the flags 4 to 12 of the row 0 show the row 0. */
final class Scene {
    /** A row of eight squares of the hue 1. */
    static final int ROW_OF_ONES = 011111111;

    private Scene() {
    }

    /** The row 0 of the sketch has the hue 1, and so have the nine flags through which it is seen. */
    static ChalkSquares rowDrawn() {
        ChalkSquares x = new ChalkSquares();
        x.row(0, ROW_OF_ONES);
        x.chalk(1, 100);
        x.draw(0, 0);
        return x;
    }

    /** Something of everything, with six changes that can be undone, and all that calls may need. */
    static ChalkSquares busy() {
        ChalkSquares x = rowDrawn();
        x.save(0);
        for (int hue = 2; hue <= 7; hue++) {
            x.chalk(hue, 5);
        }
        x.square(3, 3, 7);
        x.awning(2, 2);
        x.rain(1, 2);
        x.save(1);
        x.rain(3, 9);
        x.crowd(0, 0, 2, 25);
        x.crowd(1, 5, 0, 7);
        x.pass(1);
        put(x, "h1;d");
        return x;
    }

    /** As much as there can be: 24 rains, 12 crowds, 80 characters, 27 coats, 999 strokes; but no chalk of the hue 3. */
    static ChalkSquares full() {
        ChalkSquares x = new ChalkSquares();
        x.chalk(1, 999);
        x.set(ChalkSquares.COAT, 9);
        for (int n = 0; n < 3; n++) {
            x.stroke(0, 4, 1);
        }
        x.chalk(1, 3);
        for (int n = 0; n < 24; n++) {
            x.rain(4 * n, 1 + n % 9);
        }
        for (int n = 0; n < 12; n++) {
            x.crowd(n % 2, n, 2 * n, 1 + 8 * n);
        }
        put(x, "d;d;d;d;d;d;d;d;d;d;d;d;d;d;d;d;d;d;d;d;d;d;d;d;d;d;d;d;d;d;d;d;d;d;d;d;d;d;h1;d");
        return x;
    }

    /** An object with so many hours so far, up to 9999. */
    static ChalkSquares atHour(int hours) {
        ChalkSquares x = new ChalkSquares();
        int left = hours;
        while (left > 0) {
            int more = Math.min(left, 48);
            x.pass(more);
            left -= more;
        }
        return x;
    }

    static ChalkSquares atLastHour() {
        return atHour(9999);
    }

    static ChalkSquares allAwnings() {
        ChalkSquares x = new ChalkSquares();
        for (int flag = 0; flag < 256; flag++) {
            x.awning(flag / 16, flag % 16);
        }
        return x;
    }

    /** One stroke of the hue comes, and is put on a flag. */
    static void stroke(ChalkSquares x, int row, int column, int hue) {
        x.chalk(hue, 1);
        x.stroke(row, column, hue);
    }

    static long characters(String text) {
        long number = 0;
        for (int i = 0; i < text.length(); i++) {
            number = number << 8 | text.charAt(i);
        }
        return number;
    }

    static ChalkSquares withText(String text) {
        ChalkSquares x = new ChalkSquares();
        put(x, text);
        return x;
    }

    /** Returns what the last put() answered. */
    static int put(ChalkSquares x, String text) {
        int answer = 0;
        for (int i = 0; i < text.length(); i += 8) {
            answer = x.put(characters(text.substring(i, Math.min(i + 8, text.length()))));
        }
        return answer;
    }
}
