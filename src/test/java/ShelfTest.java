/** Promises 2 to 8: row, set, copy, element, show, holds, says. */
public final class ShelfTest {
    private static final Due DUE = new Due("ShelfTest");

    public static void main(String[] args) {
        rows();
        sorts();
        copies();
        shown();
        said();
        DUE.end();
    }

    private static void rows() {
        DUE.asks(Made::usual, "element(0, 2)", x -> x.element(0, 2), 3);
        DUE.asks(Made::usual, "element(0, 5)", x -> x.element(0, 5), 0);
        DUE.asks(Made::usual, "element(0, -1)", x -> x.element(0, -1), 0);
        DUE.asks(Made::usual, "element(2, 0)", x -> x.element(2, 0), 0);
        DUE.asks(Made::usual, "element(7, 0)", x -> x.element(7, 0), 0);
        DUE.asks(Made::usual, "element(8, 0)", x -> x.element(8, 0), 0);
        DUE.asks(Made::usual, "element(-1, 0)", x -> x.element(-1, 0), 0);
        FiveStones x = Made.usual();
        DUE.is("row(0, 3, 160)", x.row(0, 3, 160), 1);
        DUE.is("element(0, 0) of a new row", x.element(0, 0), 0);
        DUE.is("set(0, 159, 8)", x.set(0, 159, 8), 1);
        DUE.is("element(0, 159)", x.element(0, 159), 8);
        DUE.is("row(0, 3, 2)", x.row(0, 3, 2), 1);
        DUE.is("element(0, 159) of a shorter row", x.element(0, 159), 0);
        DUE.is("row(0, 3, 160) again", x.row(0, 3, 160), 1);
        DUE.is("element(0, 159) of a new row", x.element(0, 159), 0);
        DUE.is("row(2, 1, 0) over a hand", x.row(2, 1, 0), 1);
        DUE.is("holds(2)", x.holds(2), 101);
    }

    private static void sorts() {
        long[] put = {0x123456789ABCDEF0L, 127, 128, 255, -1, 40000, 3000000000L, Long.MIN_VALUE};
        FiveStones x = Made.fresh();
        for (int sort = 0; sort < 4; sort++) {
            x.row(sort, sort, put.length);
            for (int i = 0; i < put.length; i++) {
                DUE.is("set(" + sort + ", " + i + ", " + put[i] + ")", x.set(sort, i, put[i]), 1);
                long kept = sort == 0 ? (byte) put[i] : sort == 1 ? (short) put[i] : sort == 2 ? (int) put[i] : put[i];
                DUE.is("element(" + sort + ", " + i + ")", x.element(sort, i), kept);
            }
            DUE.is("holds(" + sort + ")", x.holds(sort), 100 + sort);
        }
    }

    private static void copies() {
        DUE.asks(Made::usual, "copy(0, 0, 5, 5, 0)", x -> x.copy(0, 0, 5, 5, 0), 1);
        DUE.asks(Made::usual, "copy(0, 4, 0, 0, 0)", x -> x.copy(0, 4, 0, 0, 0), 1);
        overlap(0, 1, 4, new long[] {1, 1, 2, 3, 4});
        overlap(1, 0, 4, new long[] {2, 3, 4, 5, 5});
        overlap(3, 0, 2, new long[] {4, 5, 3, 4, 5});
        FiveStones x = Made.usual();
        x.row(7, 0, 8);
        DUE.is("copy(0, 7, 1, 3, 4)", x.copy(0, 7, 1, 3, 4), 1);
        long[] want = {0, 0, 0, 2, 3, 4, 5, 0};
        for (int i = 0; i < want.length; i++) {
            DUE.is("element(7, " + i + ")", x.element(7, i), want[i]);
            DUE.is("element(0, " + i + ")", x.element(0, i), i < 5 ? i + 1 : 0);
        }
    }

    private static void overlap(int i, int j, int n, long[] want) {
        FiveStones x = Made.usual();
        DUE.is("copy(0, 0, " + i + ", " + j + ", " + n + ")", x.copy(0, 0, i, j, n), 1);
        for (int k = 0; k < want.length; k++) {
            DUE.is("then element(0, " + k + ")", x.element(0, k), want[k]);
        }
    }

    private static void shown() {
        DUE.asks(Made::usual, "holds(0)", x -> x.holds(0), 100);
        DUE.asks(Made::usual, "holds(1)", x -> x.holds(1), 102);
        DUE.asks(Made::usual, "holds(3)", x -> x.holds(3), 2);
        DUE.asks(Made::usual, "holds(7)", x -> x.holds(7), -1);
        DUE.asks(Made::usual, "holds(8)", x -> x.holds(8), -1);
        DUE.asks(Made::usual, "holds(-1)", x -> x.holds(-1), -1);
        FiveStones x = Made.usual();
        DUE.is("show(0, 1) over a row", x.show(0, 1), 1);
        DUE.is("holds(0)", x.holds(0), 1);
        DUE.is("element(0, 0)", x.element(0, 0), 0);
        DUE.is("show(0, NONE)", x.show(0, FiveStones.NONE), 0);
        DUE.is("holds(0)", x.holds(0), -1);
        DUE.is("set(0, 0, 1)", x.set(0, 0, 1), -3);
    }

    private static void said() {
        DUE.asks(Made::usual, "says(3, 1)", x -> x.says(3, 1), 2);
        // what each kind says as each kind, with a 4 and 20 tosses; -2 where it isn't of it
        int[][] want = {
            {20, -2, -2, -2, -2, -2, -2},
            {20, 2, -2, -2, -2, -2, -2},
            {20, -2, 24, -2, -2, -2, -2},
            {20, -2, 24, 2, -2, -2, -2},
            {20, -2, -2, -2, 5, -2, -2},
            {20, 2, -2, -2, -2, 5, -2},
            {20, -2, -2, -2, 5, -2, 4},
        };
        for (int kind = 0; kind < 7; kind++) {
            FiveStones x = Made.fresh();
            x.hand(kind, 4);
            x.show(5, 0);
            Made.tossTimes(x, 20);
            for (int as = 0; as < 7; as++) {
                DUE.is("says(5, " + as + ") of kind " + kind, x.says(5, as), want[kind][as]);
            }
        }
    }
}
