/** Objects that the tests begin with, and how they are made. */
final class Made {
    private Made() {
    }

    static FiveStones fresh() {
        return new FiveStones();
    }

    /**
     * Hands 0 HAND 3, 1 SURE 5, 2 LEFT 7; stones in 27, 26, 20, 34, 14; turn of 1, stage of 1 is 2;
     * shelf 0 five bytes 1 to 5, 1 three ints 50, 20, 10, 2 hand 0, 3 hand 2, 4 no elements, the others nothing.
     */
    static FiveStones usual() {
        FiveStones x = new FiveStones();
        x.hand(0, 3);
        x.hand(3, 5);
        x.hand(5, 7);
        lay(x, 27, 26, 20, 34, 14);
        x.turn(1);
        x.stage(1, 2);
        x.row(0, 0, 5);
        for (int i = 0; i < 5; i++) {
            x.set(0, i, i + 1);
        }
        ints(x, 1, 50, 20, 10);
        x.show(2, 0);
        x.show(3, 2);
        x.row(4, 0, 0);
        x.act(1, 2, 9);
        return x;
    }

    /** As usual, with as many hands as may be: 3 is COLD 9. */
    static FiveStones full() {
        FiveStones x = usual();
        x.hand(6, 9);
        return x;
    }

    /**
     * Full of what a call could change by mistake: an image that differs, stages, rounds, tosses, faults, a fault of
     * a text, a seed, refusals, some stones up, and in shelf 5 the text 'up 9', in 6 a row of 160 longs, in 7 nothing.
     */
    static FiveStones busy() {
        FiveStones x = full();
        x.image();
        x.stage(0, 4);
        x.turn(0);
        lay(x, 27);
        x.seed(0);
        x.toss(1, 1);
        x.turn(3);
        x.stone(0, 0);
        x.toss(1, 1);
        lay(x, 27, 26);
        x.stone(3, 34);
        x.turn(2);
        x.seed(77);
        write(x, 5, "up 9");
        x.game(5);
        x.row(6, 3, 160);
        x.set(6, 0, 11);
        x.set(6, 159, -5);
        x.handOf(4, 0);
        x.act(3, 2, 5);
        return x;
    }

    /** As busy, with a row of chances in shelf 5: only hand 2, whose turn it is, gets through, and at once. */
    static FiveStones hundred() {
        FiveStones x = busy();
        ints(x, 5, 0, 0, 100, 0);
        return x;
    }

    /** So many hands, the last one first to toss, five stones that lie, and a row of four ints in shelf 0. */
    static FiveStones hands(int n) {
        FiveStones x = new FiveStones();
        for (int h = 0; h < n; h++) {
            x.hand(h, h + 1);
        }
        x.turn(n - 1);
        lay(x, 27, 26, 20, 34, 14);
        ints(x, 0, 5, 6, 7, 8);
        return x;
    }

    /** One hand, and the stones in these cells. */
    static FiveStones one(int kind, int a, int... cells) {
        FiveStones x = new FiveStones();
        x.hand(kind, a);
        lay(x, cells);
        return x;
    }

    /** A TIRED hand behind so many tosses, all stones up. */
    static FiveStones tired(int tosses) {
        FiveStones x = one(4, 0);
        // bounded, so that a class that tosses nothing fails a test and doesn't hold it up
        for (int t = 0; t < 100 && x.handOf(0, 4) < tosses - 100; t++) {
            x.plays(20);
        }
        tossTimes(x, tosses - x.handOf(0, 4));
        lay(x);
        return x;
    }

    static void tossTimes(FiveStones x, int n) {
        for (int t = 0; t < n; t++) {
            x.stone(0, 27);
            x.toss(1, 9);
        }
    }

    static void lay(FiveStones x, int... cells) {
        for (int k = 0; k < 5; k++) {
            x.stone(k, FiveStones.NONE);
        }
        for (int k = 0; k < cells.length; k++) {
            x.stone(k, cells[k]);
        }
    }

    /** Puts a text in a shelf as a row of bytes. */
    static void write(FiveStones x, int s, String text) {
        x.row(s, 0, text.length());
        for (int i = 0; i < text.length(); i++) {
            x.set(s, i, text.charAt(i));
        }
    }

    static void ints(FiveStones x, int s, int... values) {
        x.row(s, 2, values.length);
        for (int i = 0; i < values.length; i++) {
            x.set(s, i, values[i]);
        }
    }
}
