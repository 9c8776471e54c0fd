import java.util.function.Supplier;
import java.util.function.ToLongBiFunction;

/**
 * Every argument of every call: the last number that may be and the first that may not, on each side, and the
 * greatest and least ints; what is refused changes nothing but how many there were.
 */
public final class RangeTest {
    private static final Due DUE = new Due("RangeTest");

    public static void main(String[] args) {
        shelves();
        shelvesWithHands();
        rowsOfNoneAndAll();
        copied();
        handNumbers();
        kindsAndA();
        stonesAndCells();
        stages();
        sets();
        heights();
        whats();
        chances();
        chanceRows();
        toldTurns();
        inTruth();
        neverRefused();
        DUE.end();
    }

    /** All shelves hold four ints, 5 to 8. */
    private static FiveStones allRows() {
        FiveStones x = Made.full();
        for (int s = 0; s < 8; s++) {
            Made.ints(x, s, 5, 6, 7, 8);
        }
        return x;
    }

    private static FiveStones allTexts() {
        FiveStones x = Made.full();
        for (int s = 0; s < 8; s++) {
            Made.write(x, s, "up 0");
        }
        return x;
    }

    private static FiveStones allHands() {
        FiveStones x = Made.full();
        for (int s = 0; s < 8; s++) {
            x.show(s, s % 4);
        }
        return x;
    }

    private static void shelves() {
        DUE.range(RangeTest::allRows, "row(%, 0, 0)", (x, s) -> x.row(s, 0, 0), 0, 7, -1);
        DUE.range(RangeTest::allRows, "set(%, 0, 1)", (x, s) -> x.set(s, 0, 1), 0, 7, -1);
        DUE.range(RangeTest::allRows, "copy(%, 3, 0, 0, 4)", (x, s) -> x.copy(s, 3, 0, 0, 4), 0, 7, -1);
        DUE.range(RangeTest::allRows, "copy(3, %, 0, 0, 4)", (x, s) -> x.copy(3, s, 0, 0, 4), 0, 7, -1);
        DUE.range(RangeTest::allTexts, "game(%)", (x, s) -> x.game(s), 0, 7, -1);
        DUE.range(RangeTest::allRows, "first(%, 3, 1)", (x, s) -> x.first(s, 3, 1), 0, 7, -1);
        DUE.range(RangeTest::allRows, "turns(%, 0)", (x, s) -> x.turns(s, 0), 0, 7, -11);
        DUE.range(RangeTest::allRows, "judge(0, %, 4)", (x, s) -> x.judge(0, s, 4), 0, 7, -11);
        DUE.range(RangeTest::allRows, "told(0, %, 0)", (x, s) -> x.told(0, s, 0), 0, 7, -1);
    }

    private static void shelvesWithHands() {
        DUE.range(RangeTest::allRows, "show(%, 3)", (x, s) -> x.show(s, 3), 0, 7, -1);
        DUE.range(RangeTest::allHands, "show(%, NONE)", (x, s) -> x.show(s, FiveStones.NONE), 0, 7, -1);
        DUE.range(RangeTest::allHands, "says(%, 0)", (x, s) -> x.says(s, 0), 0, 7, -1);
        // a COLD hand is no SMALL, QUICK, SURE or LEFT one, so only the ends of the kinds are asked of it
        DUE.range(RangeTest::allHands, "says(3, %)", (x, kind) -> x.says(3, kind), 0, 6, -1);
    }

    private static void rowsOfNoneAndAll() {
        for (int sort = 0; sort < 4; sort++) {
            int of = sort;
            DUE.allows(Made::busy, "row(0, sort, %)", (x, n) -> x.row(0, of, n), 0);
            DUE.allows(Made::busy, "row(0, sort, %)", (x, n) -> x.row(0, of, n), 160);
            DUE.notBelow(Made::busy, "row(0, sort, %)", (x, n) -> x.row(0, of, n), 0, -4);
            DUE.notAbove(Made::busy, "row(0, sort, %)", (x, n) -> x.row(0, of, n), 160, -7);
        }
        DUE.range(Made::busy, "row(0, %, 160)", (x, sort) -> x.row(0, sort, 160), 0, 3, -6);
        for (int n : new int[] {0, 1, 2, 159, 160}) {
            Supplier<FiveStones> made = () -> {
                FiveStones x = Made.busy();
                x.row(1, 1, n);
                return x;
            };
            DUE.range(made, "set(1, %, 7) of " + n, (x, i) -> x.set(1, i, 7), 0, n - 1, -5);
        }
    }

    /** Shelf 0 holds a full row, 1 the same with three elements, 2 with none. */
    private static FiveStones threeRows() {
        FiveStones x = Made.full();
        x.row(0, 2, 160);
        x.row(1, 2, 3);
        x.row(2, 2, 0);
        return x;
    }

    private static void copied() {
        Supplier<FiveStones> made = RangeTest::threeRows;
        DUE.range(made, "copy(0, 1, %, 0, 3)", (x, i) -> x.copy(0, 1, i, 0, 3), 0, 157, -5);
        DUE.range(made, "copy(1, 0, 0, %, 3)", (x, j) -> x.copy(1, 0, 0, j, 3), 0, 157, -5);
        DUE.range(made, "copy(0, 0, %, 0, 1)", (x, i) -> x.copy(0, 0, i, 0, 1), 0, 159, -5);
        DUE.range(made, "copy(0, 0, 0, %, 1)", (x, j) -> x.copy(0, 0, 0, j, 1), 0, 159, -5);
        DUE.range(made, "copy(0, 0, %, 160, 0)", (x, i) -> x.copy(0, 0, i, 160, 0), 0, 160, -5);
        DUE.range(made, "copy(0, 0, 160, %, 0)", (x, j) -> x.copy(0, 0, 160, j, 0), 0, 160, -5);
        DUE.range(made, "copy(2, 2, %, 0, 0)", (x, i) -> x.copy(2, 2, i, 0, 0), 0, 0, -5);
        DUE.range(made, "copy(2, 2, 0, %, 0)", (x, j) -> x.copy(2, 2, 0, j, 0), 0, 0, -5);
        numbersCopied(made, "copy(0, 0, 0, 0, %)", (x, n) -> x.copy(0, 0, 0, 0, n), 160);
        numbersCopied(made, "copy(0, 1, 0, 0, %)", (x, n) -> x.copy(0, 1, 0, 0, n), 3);
        numbersCopied(made, "copy(1, 0, 0, 0, %)", (x, n) -> x.copy(1, 0, 0, 0, n), 3);
        numbersCopied(made, "copy(0, 1, 0, 1, %)", (x, n) -> x.copy(0, 1, 0, 1, n), 2);
        numbersCopied(made, "copy(0, 0, 159, 0, %)", (x, n) -> x.copy(0, 0, 159, 0, n), 1);
        numbersCopied(made, "copy(2, 0, 0, 0, %)", (x, n) -> x.copy(2, 0, 0, 0, n), 0);
        int great = Integer.MAX_VALUE;
        DUE.refuses(made, "copy from the greatest", x -> x.copy(0, 0, great, 0, great), -5, -5);
        DUE.refuses(made, "copy to the greatest", x -> x.copy(0, 0, 0, great, great), -5, -5);
        DUE.refuses(made, "copy from -1 to its own end", x -> x.copy(0, 0, -1, 0, 1), -5, -5);
    }

    private static void numbersCopied(Supplier<FiveStones> made, String call,
            ToLongBiFunction<FiveStones, Integer> what, int most) {
        DUE.allows(made, call, what, 0);
        DUE.allows(made, call, what, most);
        DUE.notBelow(made, call, what, 0, -4);
        DUE.notAbove(made, call, what, most, -5);
    }

    /** With none, some and all of the hands that there may be. */
    private static void handNumbers() {
        for (int n = 0; n <= 4; n++) {
            int count = n;
            Supplier<FiveStones> made = () -> Made.hands(count);
            String of = " of " + n + " hands";
            DUE.range(made, "show(1, %)" + of, (x, h) -> x.show(1, h), -1, n - 1, -1);
            DUE.range(made, "handOf(%, 6)" + of, (x, h) -> x.handOf(h, 6), 0, n - 1, -5);
            DUE.range(made, "stage(%, 4)" + of, (x, h) -> x.stage(h, 4), 0, n - 1, -1);
            DUE.range(made, "turn(%)" + of, (x, h) -> x.turn(h), 0, n - 1, -1);
            DUE.range(made, "odds(%, 31, 9)" + of, (x, h) -> x.odds(h, 31, 9), 0, n - 1, -1);
            DUE.range(made, "high(%, 31, 1)" + of, (x, h) -> x.high(h, 31, 1), 0, n - 1, -1);
            DUE.range(made, "chance(%, 4)" + of, (x, h) -> x.chance(h, 4), 0, n - 1, -1);
            DUE.range(made, "plan(%, 4)" + of, (x, h) -> x.plan(h, 4), 0, n - 1, -1);
            DUE.range(made, "bestStage(%)" + of, (x, h) -> x.bestStage(h), 0, n - 1, -1);
            DUE.range(made, "keep(%)" + of, (x, h) -> x.keep(h), 0, n - 1, -1);
            DUE.range(made, "first(0, %, 100)" + of, (x, h) -> x.first(0, h, 100), 0, n - 1, -1);
            DUE.range(made, "judge(%, 0, 4)" + of, (x, h) -> x.judge(h, 0, 4), 0, n - 1, -11);
            DUE.range(made, "told(%, 0, 0)" + of, (x, h) -> x.told(h, 0, 0), 0, n - 1, -1);
        }
    }

    private static void kindsAndA() {
        DUE.range(Made::usual, "hand(%, 9)", (x, kind) -> x.hand(kind, 9), 0, 6, -1);
        DUE.range(Made::usual, "hand(6, %)", (x, a) -> x.hand(6, a), 0, 9, -6);
        for (int n = 0; n <= 4; n++) {
            int count = n;
            if (n < 4) {
                DUE.allows(() -> Made.hands(count), "hand(0, 0) with " + n, (x, a) -> x.hand(0, a), 0);
            } else {
                DUE.refuses(() -> Made.hands(count), "hand(0, 0) with 4", x -> x.hand(0, 0), -7, -7);
            }
        }
    }

    private static void stonesAndCells() {
        DUE.range(Made::busy, "stone(%, 1)", (x, k) -> x.stone(k, 1), 0, 4, -11);
        DUE.range(Made::busy, "stone(%, NONE)", (x, k) -> x.stone(k, FiveStones.NONE), 0, 4, -11);
        DUE.range(Made::busy, "stoneAt(%)", (x, k) -> x.stoneAt(k), 0, 4, -11);
        for (int k = 0; k < 5; k++) {
            int stone = k;
            DUE.range(Made::busy, "stone(" + k + ", %)", (x, cell) -> x.stone(stone, cell), -1, 35, -16);
            DUE.allows(Made::busy, "stone(" + k + ", %)", (x, cell) -> x.stone(stone, cell), 0);
        }
    }

    private static void stages() {
        DUE.range(Made::busy, "stage(3, %)", (x, v) -> x.stage(3, v), 1, 4, -6);
        DUE.range(Made::busy, "chance(3, %)", (x, v) -> x.chance(3, v), 1, 4, -6);
        DUE.range(Made::busy, "plan(3, %)", (x, v) -> x.plan(3, v), 1, 4, -6);
        DUE.range(Made::busy, "bestHand(%)", (x, v) -> x.bestHand(v), 1, 4, -6);
        // also while none lies, and the chance is sure
        Supplier<FiveStones> noneLies = () -> Made.one(3, 5);
        DUE.range(noneLies, "chance(0, %) of none", (x, v) -> x.chance(0, v), 1, 4, -6);
        DUE.range(noneLies, "plan(0, %) of none", (x, v) -> x.plan(0, v), 1, 4, -6);
        DUE.range(noneLies, "bestHand(%) of none", (x, v) -> x.bestHand(v), 1, 4, -6);
    }

    /** Every set of stones that lie, and every other one, of every laying. */
    private static void sets() {
        DUE.range(Made::usual, "way(%)", (x, set) -> x.way(set), 0, 31, -6);
        DUE.range(Made::usual, "odds(2, %, 9)", (x, set) -> x.odds(2, set, 9), 0, 31, -6);
        DUE.range(Made::usual, "high(2, %, 0)", (x, set) -> x.high(2, set, 0), 0, 31, -6);
        DUE.range(Made::usual, "high(2, %, 1)", (x, set) -> x.high(2, set, 1), 0, 31, -6);
        DUE.range(Made::usual, "toss(%, 9)", (x, set) -> x.toss(set, 9), 1, 31, -6);
        DUE.range(() -> Made.one(0, 0), "way(%) of none", (x, set) -> x.way(set), 0, 0, -6);
        for (int lie = 0; lie < 32; lie++) {
            FiveStones x = Made.one(0, 0);
            for (int k = 0; k < 5; k++) {
                x.stone(k, (lie >> k & 1) == 1 ? 7 * k : -1);
            }
            for (int set = -1; set <= 32; set++) {
                boolean within = set >= 0 && (set & lie) == set;
                String of = set + " while " + lie + " lies";
                DUE.is("way of " + of, x.way(set) == -6 ? 1 : 0, within ? 0 : 1);
                DUE.is("odds of " + of, x.odds(0, set, 9) == -6 ? 1 : 0, within ? 0 : 1);
                DUE.is("high of " + of, x.high(0, set, 0) == -6 ? 1 : 0, within ? 0 : 1);
            }
        }
        for (int lie = 0; lie < 32; lie++) {
            for (int set = -1; set <= 32; set++) {
                FiveStones x = Made.one(0, 0);
                for (int k = 0; k < 5; k++) {
                    x.stone(k, (lie >> k & 1) == 1 ? 7 * k : -1);
                }
                boolean within = set > 0 && (set & lie) == set;
                DUE.is("toss of " + set + " while " + lie + " lies", x.toss(set, 9) == -6 ? 1 : 0, within ? 0 : 1);
            }
        }
    }

    private static void heights() {
        for (int set : new int[] {0, 1, 11}) {
            DUE.range(Made::busy, "odds(0, " + set + ", %)", (x, height) -> x.odds(0, set, height), 1, 9, -6);
        }
        DUE.range(Made::busy, "toss(11, %)", (x, height) -> x.toss(11, height), 1, 9, -6);
    }

    private static void whats() {
        DUE.range(Made::busy, "handOf(3, %)", (x, what) -> x.handOf(3, what), 0, 6, -5);
        DUE.range(Made::busy, "high(0, 1, %)", (x, what) -> x.high(0, 1, what), 0, 1, -5);
        DUE.range(Made::busy, "lying(%)", (x, what) -> x.lying(what), 0, 2, -15);
        DUE.range(Made::fresh, "lying(%) of none", (x, what) -> x.lying(what), 0, 2, -15);
    }

    private static void chances() {
        DUE.range(Made::usual, "first(1, 0, %)", (x, n) -> x.first(1, 0, n), 1, 100, -6);
        DUE.range(Made::usual, "turns(1, %)", (x, f) -> x.turns(1, f), 0, 1000000, -16);
        for (int h = 0; h < 4; h++) {
            for (int chance : new int[] {0, 100}) {
                FiveStones x = chanceOf(h, chance);
                DUE.holds("first with " + chance + " of hand " + h, x.first(0, 0, 1) >= 0);
                DUE.holds("turns with " + chance + " of hand " + h, x.turns(0, 0) >= -1);
            }
            for (int chance : new int[] {-1, 101, Integer.MIN_VALUE, Integer.MAX_VALUE}) {
                int of = h;
                Supplier<FiveStones> made = () -> chanceOf(of, chance);
                DUE.refuses(made, "first with " + chance + " of hand " + h, x -> x.first(0, 0, 1), -6, -6);
                DUE.refuses(made, "turns with " + chance + " of hand " + h, x -> x.turns(0, 1000000), -16, -6);
            }
        }
    }

    private static FiveStones chanceOf(int hand, int chance) {
        FiveStones x = Made.hands(4);
        x.set(0, hand, chance);
        return x;
    }

    /** As many elements as there are hands are enough, one fewer is not, and more are not looked at. */
    private static void chanceRows() {
        for (int n = 1; n <= 4; n++) {
            int count = n;
            for (int length = 0; length <= 5; length++) {
                int of = length;
                Supplier<FiveStones> made = () -> {
                    FiveStones x = Made.hands(count);
                    x.row(0, 1, of);
                    x.set(0, count, 101);
                    return x;
                };
                String with = " with " + length + " elements of " + n + " hands";
                if (length < n) {
                    DUE.refuses(made, "first" + with, x -> x.first(0, 0, 1), -5, -5);
                    DUE.refuses(made, "turns" + with, x -> x.turns(0, 0), -15, -5);
                } else {
                    DUE.asks(made, "first" + with, x -> x.first(0, 0, 1), 0);
                    DUE.asks(made, "turns" + with, x -> x.turns(0, 0), -1);
                }
            }
        }
        Supplier<FiveStones> noHands = () -> Made.hands(0);
        DUE.refuses(noHands, "turns without hands", x -> x.turns(0, 0), -15, -5);
        DUE.refuses(noHands, "first without hands", x -> x.first(0, 0, 1), -1, -1);
    }

    private static void toldTurns() {
        for (int length : new int[] {0, 1, 19, 20}) {
            Supplier<FiveStones> made = () -> {
                FiveStones x = Made.full();
                x.row(5, 3, length);
                return x;
            };
            String of = " of " + length + " elements";
            DUE.allows(made, "judge(0, 5, %)" + of, (x, n) -> x.judge(0, 5, n), 0);
            DUE.allows(made, "judge(0, 5, %)" + of, (x, n) -> x.judge(0, 5, n), length);
            DUE.notBelow(made, "judge(0, 5, %)" + of, (x, n) -> x.judge(0, 5, n), 0, -14);
            DUE.notAbove(made, "judge(0, 5, %)" + of, (x, n) -> x.judge(0, 5, n), length, -15);
            DUE.allows(made, "told(0, 5, %)" + of, (x, n) -> x.told(0, 5, n), 0);
            DUE.notBelow(made, "told(0, 5, %)" + of, (x, n) -> x.told(0, 5, n), 0, -4);
            DUE.notAbove(made, "told(0, 5, %)" + of, (x, n) -> x.told(0, 5, n), length, -5);
        }
        DUE.allows(Made::busy, "judge(0, 6, %)", (x, n) -> x.judge(0, 6, n), 20);
        for (int n : new int[] {21, 159, 160}) {
            DUE.refuses(Made::busy, "judge(0, 6, " + n + ")", x -> x.judge(0, 6, n), -16, -6);
            DUE.refuses(Made::busy, "told(0, 6, " + n + ")", x -> x.told(0, 6, n), -6, -6);
        }
        for (int n : new int[] {161, Integer.MAX_VALUE}) {
            DUE.refuses(Made::busy, "judge(0, 6, " + n + ")", x -> x.judge(0, 6, n), -15, -5);
            DUE.refuses(Made::busy, "told(0, 6, " + n + ")", x -> x.told(0, 6, n), -5, -5);
        }
    }

    private static void inTruth() {
        DUE.range(Made::busy, "throwDown(%)", (x, force) -> x.throwDown(force), 0, 2, -6);
        DUE.range(Made::fresh, "throwDown(%) without hands", (x, force) -> x.throwDown(force), 0, 2, -6);
        DUE.range(Made::usual, "throwDown(%) of none up", (x, force) -> x.throwDown(force), 0, 2, -6);
        DUE.range(Made::busy, "plays(%)", (x, n) -> x.plays(n), 1, 20, -6);
    }

    /** These answer for any number; element, holds, trace and status change nothing, either. */
    private static void neverRefused() {
        int[] any = {Integer.MIN_VALUE, -8, -7, -2, -1, 0, 3, 7, 8, 9, 10, 18, 159, 160, 161, Integer.MAX_VALUE};
        for (int v : any) {
            DUE.asks(Made::fresh, "element(" + v + ", 0)", x -> x.element(v, 0), 0);
            DUE.asks(Made::fresh, "holds(" + v + ")", x -> x.holds(v), -1);
            DUE.asks(Made::fresh, "trace(" + v + ")", x -> x.trace(v), -1);
            DUE.allows(Made::busy, "element(6, %)", (x, i) -> x.element(6, i), v);
            DUE.allows(Made::busy, "seed(%)", (x, seed) -> x.seed(seed), v);
            DUE.allows(Made::busy, "act(%, 0, 1)", (x, h) -> x.act(h, 0, 1), v);
            DUE.allows(Made::busy, "act(0, %, 1)", (x, act) -> x.act(0, act, 1), v);
            DUE.allows(Made::busy, "act(0, 0, %)", (x, with) -> x.act(0, 0, with), v);
            DUE.allows(Made::busy, "status(%)", (x, what) -> x.status(what), v);
        }
    }
}
