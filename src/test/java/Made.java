/** Objects that the tests begin with. */
final class Made {
    private Made() {
    }

    static FiveStones fresh() {
        return new FiveStones();
    }

    /**
     * Hands 0 HAND 3, 1 SURE 5, 2 LEFT 7; stones in 27, 26, 20, 34, 14; turn of 1, stage of 1 is 2;
     * shelf 0 five bytes 1 to 5, 1 three ints 50, 20, 10, 2 hand 0, 3 hand 2, 4 no elements, the others nothing.
     */
    static FiveStones usual() {
        FiveStones x = new FiveStones();
        x.hand(0, 3);
        x.hand(3, 5);
        x.hand(5, 7);
        lay(x, 27, 26, 20, 34, 14);
        x.turn(1);
        x.stage(1, 2);
        x.row(0, 0, 5);
        for (int i = 0; i < 5; i++) {
            x.set(0, i, i + 1);
        }
        x.row(1, 2, 3);
        x.set(1, 0, 50);
        x.set(1, 1, 20);
        x.set(1, 2, 10);
        x.show(2, 0);
        x.show(3, 2);
        x.row(4, 0, 0);
        x.act(1, 2, 9);
        return x;
    }

    /** As usual, with as many hands as may be: 3 is COLD 9. */
    static FiveStones full() {
        FiveStones x = usual();
        x.hand(6, 9);
        return x;
    }

    static void lay(FiveStones x, int... cells) {
        for (int k = 0; k < 5; k++) {
            x.stone(k, FiveStones.NONE);
        }
        for (int k = 0; k < cells.length; k++) {
            x.stone(k, cells[k]);
        }
    }

    /** Puts a text in a shelf as a row of bytes. */
    static void write(FiveStones x, int s, String text) {
        x.row(s, 0, text.length());
        for (int i = 0; i < text.length(); i++) {
            x.set(s, i, text.charAt(i));
        }
    }

    static void ints(FiveStones x, int s, int... values) {
        x.row(s, 2, values.length);
        for (int i = 0; i < values.length; i++) {
            x.set(s, i, values[i]);
        }
    }
}
