/** Objects to begin a test with. From the first mark the flags 4 to 12 of the row 0 show the row 0. */
final class Scene {
    /** A row of eight squares of the hue 1. */
    static final int ROW_OF_ONES = 011111111;

    private Scene() {
    }

    /** The row 0 of the sketch has the hue 1, and so have the nine flags through which it is seen. */
    static ChalkSquares rowDrawn() {
        ChalkSquares x = new ChalkSquares();
        x.row(0, ROW_OF_ONES);
        x.chalk(1, 100);
        x.draw(0, 0);
        return x;
    }

    /** Something of everything. */
    static ChalkSquares busy() {
        ChalkSquares x = rowDrawn();
        x.square(3, 3, 7);
        x.chalk(7, 5);
        x.awning(2, 2);
        x.rain(1, 2);
        x.rain(3, 9);
        x.crowd(0, 0, 2, 25);
        x.crowd(1, 5, 0, 7);
        x.pass(1);
        put(x, "h1;d");
        return x;
    }

    /** Chalk of the hue enough, and one stroke of it on a flag. */
    static void stroke(ChalkSquares x, int row, int column, int hue) {
        x.chalk(hue, 1);
        x.stroke(row, column, hue);
    }

    static long characters(String text) {
        long number = 0;
        for (int i = 0; i < text.length(); i++) {
            number = number << 8 | text.charAt(i);
        }
        return number;
    }

    /** Returns what the last put() answered. */
    static int put(ChalkSquares x, String text) {
        int answer = 0;
        for (int i = 0; i < text.length(); i += 8) {
            answer = x.put(characters(text.substring(i, Math.min(i + 8, text.length()))));
        }
        return answer;
    }
}
