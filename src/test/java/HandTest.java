/** Promises 1 and 9 to 14: a new object, hand, handOf, stone, stoneAt, stage, turn. */
public final class HandTest {
    private static final Due DUE = new Due("HandTest");

    public static void main(String[] args) {
        newObject();
        hands();
        slips();
        stones();
        stagesAndTurns();
        DUE.end();
    }

    private static void newObject() {
        FiveStones x = Made.fresh();
        int[] want = {0, 0, -1, 0, 0, 1, 0};
        for (int what = 0; what < want.length; what++) {
            DUE.is("status(" + what + ") of a new object", x.status(what), want[what]);
        }
        for (int what = 11; what <= 17; what++) {
            DUE.is("status(" + what + ") of a new object", x.status(what), 0);
        }
        for (int k = 0; k < 5; k++) {
            DUE.is("stoneAt(" + k + ") of a new object", x.stoneAt(k), -1);
        }
        for (int s = 0; s < 8; s++) {
            DUE.is("holds(" + s + ") of a new object", x.holds(s), -1);
        }
        DUE.is("fault() of a new object", x.fault(), -1);
        DUE.is("trace(0) of a new object", x.trace(0), -1);
        DUE.is("restore() of a new object", x.restore(), -6);
    }

    private static void hands() {
        FiveStones x = Made.fresh();
        for (int h = 0; h < 4; h++) {
            DUE.is("hand(" + (h + 3) + ", " + (9 - h) + ")", x.hand(h + 3, 9 - h), h);
            DUE.is("status(0)", x.status(0), h + 1);
            DUE.is("status(2)", x.status(2), 0);
            int[] want = {h + 3, 9 - h, 1, 0, 0};
            for (int what = 0; what < want.length; what++) {
                DUE.is("handOf(" + h + ", " + what + ")", x.handOf(h, what), want[what]);
            }
        }
    }

    private static void slips() {
        int[] slip = {3, 3, 3, 2, 3, 5, 3};
        int[] later = {3, 3, 3, 2, 4, 5, 4};
        for (int kind = 0; kind < 7; kind++) {
            for (int a = 0; a <= 9; a++) {
                FiveStones x = Made.fresh();
                x.hand(kind, a);
                int most = kind == 1 || kind == 5 ? a % 3 + 1 : 4;
                DUE.is("handOf(0, 5) of " + kind + " " + a, x.handOf(0, 5), slip[kind]);
                DUE.is("handOf(0, 6) of " + kind + " " + a, x.handOf(0, 6), most);
                Made.tossTimes(x, 9);
                DUE.is("handOf(0, 5) behind 9 tosses of " + kind, x.handOf(0, 5), slip[kind]);
                Made.tossTimes(x, 1);
                DUE.is("handOf(0, 5) behind 10 tosses of " + kind, x.handOf(0, 5), later[kind]);
                Made.tossTimes(x, 9);
                DUE.is("handOf(0, 5) behind 19 tosses of " + kind, x.handOf(0, 5), later[kind]);
                DUE.is("handOf(0, 4)", x.handOf(0, 4), 19);
            }
        }
    }

    private static void stones() {
        DUE.asks(Made::usual, "stone(0, 27) where it lies", x -> x.stone(0, 27), 27);
        DUE.asks(Made::usual, "stoneAt(3)", x -> x.stoneAt(3), 34);
        DUE.asks(Made::fresh, "stoneAt(3) up", x -> x.stoneAt(3), -1);
        DUE.asks(Made::fresh, "stone(3, NONE) up", x -> x.stone(3, FiveStones.NONE), -1);
        FiveStones x = Made.usual();
        DUE.is("stone(4, 0)", x.stone(4, 0), 14);
        DUE.is("stone(4, 35)", x.stone(4, 35), 0);
        DUE.is("stone(4, NONE)", x.stone(4, -1), 35);
        DUE.is("stoneAt(4)", x.stoneAt(4), -1);
        DUE.is("status(1)", x.status(1), 15);
        DUE.is("stone(0, 14) that is free now", x.stone(0, 14), 27);
        DUE.is("stone(4, 27)", x.stone(4, 27), -1);
    }

    private static void stagesAndTurns() {
        FiveStones x = Made.usual();
        DUE.is("stage(1, 4)", x.stage(1, 4), 2);
        DUE.is("stage(1, 1)", x.stage(1, 1), 4);
        DUE.is("handOf(1, 2)", x.handOf(1, 2), 1);
        DUE.is("turn(2)", x.turn(2), 1);
        DUE.is("turn(2)", x.turn(2), 2);
        DUE.is("status(2)", x.status(2), 2);
    }
}
