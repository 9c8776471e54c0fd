import java.util.function.Supplier;
import java.util.function.ToLongFunction;

/**
 * Calls that several refusals fit: the first in the document's order is answered and counted, and nothing changes
 * but how many there were. In the busy object, shelf 1 holds three ints, 2 a hand, 4 no elements, 6 a full row, 7
 * nothing; there are four hands.
 */
public final class OrderTest {
    private static final Due DUE = new Due("OrderTest");
    private static final Supplier<FiveStones> NO_HANDS = () -> Made.hands(0);

    public static void main(String[] args) {
        rows();
        copies();
        handsOnShelves();
        handsAndStones();
        games();
        thoughts();
        chances();
        toldTurns();
        inTruth();
        counted();
        DUE.end();
    }

    /** The refusal's number is the answer, or it is told 10 lower. */
    private static void first(Supplier<FiveStones> made, String call, ToLongFunction<FiveStones> what, int answer) {
        DUE.refuses(made, call, what, answer, answer < -10 ? answer + 10 : answer);
    }

    private static void busy(String call, ToLongFunction<FiveStones> what, int answer) {
        first(Made::busy, call, what, answer);
    }

    private static void rows() {
        busy("row(8, 4, -1)", x -> x.row(8, 4, -1), -1);
        busy("row(-1, 4, 161)", x -> x.row(-1, 4, 161), -1);
        busy("row(1, 4, -1)", x -> x.row(1, 4, -1), -4);
        busy("row(1, -1, -1)", x -> x.row(1, -1, -1), -4);
        busy("row(1, 4, 161)", x -> x.row(1, 4, 161), -6);
        busy("row(1, -1, 161)", x -> x.row(1, -1, 161), -6);
        busy("row(1, 3, 161)", x -> x.row(1, 3, 161), -7);
        busy("set(8, -1, 1)", x -> x.set(8, -1, 1), -1);
        busy("set(2, -1, 1)", x -> x.set(2, -1, 1), -2);
        busy("set(7, -1, 1)", x -> x.set(7, -1, 1), -3);
        busy("set(4, 0, 1)", x -> x.set(4, 0, 1), -5);
    }

    private static void copies() {
        busy("copy(8, 2, -1, 0, -1)", x -> x.copy(8, 2, -1, 0, -1), -1);
        busy("copy(2, 8, -1, 0, -1)", x -> x.copy(2, 8, -1, 0, -1), -1);
        busy("copy(7, 8, -1, 0, -1)", x -> x.copy(7, 8, -1, 0, -1), -1);
        busy("copy(8, 7, -1, 0, -1)", x -> x.copy(8, 7, -1, 0, -1), -1);
        busy("copy of a hand to nothing", x -> x.copy(2, 7, -1, 0, -1), -2);
        busy("copy of nothing to a hand", x -> x.copy(7, 2, -1, 0, -1), -2);
        busy("copy of a hand to a row", x -> x.copy(2, 1, -1, 0, -1), -2);
        busy("copy of a row to a hand", x -> x.copy(1, 2, -1, 0, -1), -2);
        busy("copy of a hand to a hand", x -> x.copy(2, 3, -1, 0, -1), -2);
        busy("copy of ints to bytes", x -> x.copy(1, 4, -1, 0, -1), -2);
        busy("copy of bytes to ints", x -> x.copy(4, 1, 0, -1, 5), -2);
        busy("copy of ints to bytes, none of them", x -> x.copy(1, 4, 0, 0, 0), -2);
        busy("copy of nothing to ints", x -> x.copy(7, 1, -1, 0, -1), -3);
        busy("copy of ints to nothing", x -> x.copy(1, 7, -1, 0, -1), -3);
        busy("copy of bytes to nothing", x -> x.copy(4, 7, 0, 0, 0), -3);
        busy("copy of nothing to nothing", x -> x.copy(7, 7, -1, 0, -1), -3);
        busy("copy(1, 1, -1, 0, -1)", x -> x.copy(1, 1, -1, 0, -1), -4);
        busy("copy(1, 1, 9, 9, -1)", x -> x.copy(1, 1, 9, 9, -1), -4);
        busy("copy(1, 1, -1, 0, 0)", x -> x.copy(1, 1, -1, 0, 0), -5);
        busy("copy(1, 1, 0, -1, 0)", x -> x.copy(1, 1, 0, -1, 0), -5);
    }

    private static void handsOnShelves() {
        busy("show(8, 4)", x -> x.show(8, 4), -1);
        busy("show(8, NONE)", x -> x.show(8, FiveStones.NONE), -1);
        busy("says(8, 7)", x -> x.says(8, 7), -1);
        busy("says(8, 0)", x -> x.says(8, 0), -1);
        busy("says of a row, kind 7", x -> x.says(1, 7), -1);
        busy("says of a hand, kind -1", x -> x.says(2, -1), -1);
        busy("says of nothing, kind 7", x -> x.says(7, 7), -1);
        busy("says of a row", x -> x.says(1, 0), -2);
        busy("says of a row of none", x -> x.says(4, 6), -2);
        busy("says of a HAND as SMALL", x -> x.says(2, 1), -2);
        busy("says of a LEFT one as QUICK", x -> x.says(3, 2), -2);
        busy("says of nothing", x -> x.says(7, 1), -3);
    }

    private static void handsAndStones() {
        busy("hand(7, 10), four there", x -> x.hand(7, 10), -1);
        busy("hand(-1, 0), four there", x -> x.hand(-1, 0), -1);
        busy("hand(0, 10), four there", x -> x.hand(0, 10), -6);
        busy("hand(0, -1), four there", x -> x.hand(0, -1), -6);
        busy("hand(0, 0), four there", x -> x.hand(0, 0), -7);
        first(NO_HANDS, "hand(7, 10)", x -> x.hand(7, 10), -1);
        busy("handOf(4, 7)", x -> x.handOf(4, 7), -5);
        busy("stone(5, 36)", x -> x.stone(5, 36), -11);
        busy("stone(-1, 27), where one lies", x -> x.stone(-1, 27), -11);
        busy("stone(1, 27), where one lies", x -> x.stone(1, 27), -16);
        busy("stone(2, 27), up, where one lies", x -> x.stone(2, 27), -16);
        busy("stage(4, 0)", x -> x.stage(4, 0), -1);
        busy("stage(0, 0)", x -> x.stage(0, 0), -6);
    }

    /** A text that is refused changes the fault, and only game() does. */
    private static void games() {
        busy("game(8)", x -> x.game(8), -1);
        busy("game of a hand", x -> x.game(2), -2);
        busy("game of nothing", x -> x.game(7), -3);
        busy("game of the same fault again", x -> x.game(5), -6);
        FiveStones x = Made.busy();
        DUE.is("fault of 'up 9'", x.fault(), 3);
        DUE.is("game of no elements", x.game(4), -6);
        DUE.is("its fault", x.fault(), 0);
    }

    private static void thoughts() {
        busy("way(4) of a stone that is up", x -> x.way(4), -6);
        busy("odds(4, 32, 0)", x -> x.odds(4, 32, 0), -1);
        busy("odds(0, 32, 0)", x -> x.odds(0, 32, 0), -6);
        busy("odds(0, 4, 1) of a stone that is up", x -> x.odds(0, 4, 1), -6);
        busy("high(4, 32, 2)", x -> x.high(4, 32, 2), -1);
        busy("high(0, 32, 2)", x -> x.high(0, 32, 2), -5);
        busy("high(0, 4, 1) of a stone that is up", x -> x.high(0, 4, 1), -6);
        busy("chance(4, 0)", x -> x.chance(4, 0), -1);
        busy("plan(4, 0)", x -> x.plan(4, 0), -1);
        first(NO_HANDS, "bestHand(0) without hands", x -> x.bestHand(0), -5);
        first(NO_HANDS, "bestHand(1) without hands", x -> x.bestHand(1), -5);
        busy("bestHand(0)", x -> x.bestHand(0), -6);
    }

    private static FiveStones chances(int... values) {
        FiveStones x = Made.busy();
        Made.ints(x, 5, values);
        return x;
    }

    private static void chances() {
        busy("first(8, 4, 0)", x -> x.first(8, 4, 0), -1);
        busy("first(8, 0, 0)", x -> x.first(8, 0, 0), -1);
        busy("first of a hand's shelf, hand 4", x -> x.first(2, 4, 0), -1);
        busy("first of nothing, hand 4", x -> x.first(7, 4, 0), -1);
        busy("first of a short row, hand -1", x -> x.first(1, -1, 0), -1);
        busy("first of a hand's shelf", x -> x.first(2, 0, 0), -2);
        busy("first of nothing", x -> x.first(7, 0, 0), -3);
        first(() -> chances(101, -1, 101), "first of a short row, wrong ones", x -> x.first(5, 0, 0), -5);
        first(() -> chances(101, 0, 0, 0), "first of a wrong chance and n", x -> x.first(5, 0, 0), -6);
        busy("turns(8, -1)", x -> x.turns(8, -1), -11);
        busy("turns of a hand's shelf", x -> x.turns(2, -1), -12);
        busy("turns of nothing", x -> x.turns(7, -1), -13);
        first(() -> chances(101, -1, 101), "turns of a short row, wrong ones", x -> x.turns(5, -1), -15);
        first(() -> chances(101, 0, 0, 0), "turns of a wrong chance and f", x -> x.turns(5, -1), -16);
        first(NO_HANDS, "turns(8, -1) without hands", x -> x.turns(8, -1), -11);
        first(NO_HANDS, "turns of nothing without hands", x -> x.turns(7, -1), -13);
        first(NO_HANDS, "turns of a row without hands", x -> x.turns(0, -1), -15);
        first(NO_HANDS, "first of nothing without hands", x -> x.first(7, 0, 0), -1);
    }

    private static void toldTurns() {
        busy("judge(4, 8, -1)", x -> x.judge(4, 8, -1), -11);
        busy("judge(0, 8, -1)", x -> x.judge(0, 8, -1), -11);
        busy("judge of a hand's shelf, hand 4", x -> x.judge(4, 2, -1), -11);
        busy("judge of nothing, hand 4", x -> x.judge(4, 7, -1), -11);
        busy("judge of a row, hand 4", x -> x.judge(4, 1, 21), -11);
        busy("judge of a hand's shelf", x -> x.judge(0, 2, -1), -12);
        busy("judge of nothing", x -> x.judge(0, 7, -1), -13);
        busy("judge of nothing, 21", x -> x.judge(0, 7, 21), -13);
        busy("judge of no elements, -1", x -> x.judge(0, 4, -1), -14);
        busy("judge of three elements, 21", x -> x.judge(0, 1, 21), -15);
        busy("judge of no elements, 1", x -> x.judge(0, 4, 1), -15);
        busy("judge of 160 elements, 21", x -> x.judge(0, 6, 21), -16);
        busy("told(4, 8, -1)", x -> x.told(4, 8, -1), -1);
        busy("told(0, 8, -1)", x -> x.told(0, 8, -1), -1);
        busy("told of a hand's shelf, hand 4", x -> x.told(4, 2, -1), -1);
        busy("told of nothing, hand 4", x -> x.told(4, 7, -1), -1);
        busy("told of a hand's shelf", x -> x.told(0, 2, -1), -2);
        busy("told of nothing", x -> x.told(0, 7, -1), -3);
        busy("told of no elements, -1", x -> x.told(0, 4, -1), -4);
        busy("told of three wrong ones, 4", x -> x.told(0, 1, 4), -5);
        busy("told of three wrong ones, 21", x -> x.told(0, 1, 21), -5);
        busy("told of three wrong ones", x -> x.told(0, 1, 3), -6);
        busy("told of 160 elements, 21", x -> x.told(0, 6, 21), -6);
    }

    private static void inTruth() {
        first(NO_HANDS, "toss(0, 0) without hands", x -> x.toss(0, 0), -5);
        first(NO_HANDS, "toss(1, 1) without hands", x -> x.toss(1, 1), -5);
        busy("toss(0, 0)", x -> x.toss(0, 0), -6);
        busy("toss(0, 1) of an empty set", x -> x.toss(0, 1), -6);
        busy("toss(4, 9) of a stone that is up", x -> x.toss(4, 9), -6);
        busy("toss(15, 9) of some that are up", x -> x.toss(15, 9), -6);
        first(NO_HANDS, "plays(0) without hands", x -> x.plays(0), -5);
        first(NO_HANDS, "plays(20) without hands", x -> x.plays(20), -5);
        busy("plays(0)", x -> x.plays(0), -6);
        first(Made::full, "restore() without an image", x -> x.restore(), -6);
        first(Made::fresh, "restore() of a new object", x -> x.restore(), -6);
    }

    /** Refusals of each number, so many of each, and neither image() nor restore() changes how many there were. */
    private static void counted() {
        FiveStones x = Made.full();
        x.image();
        for (int t = 0; t < 60; t++) {
            x.show(8, 0);
            x.says(0, 0);
            x.says(7, 0);
            x.row(0, 0, -1);
            x.lying(3);
            x.plays(0);
            x.hand(0, 0);
        }
        x.stoneAt(5);
        x.turns(2, 0);
        x.turns(7, 0);
        x.judge(0, 0, -1);
        x.judge(0, 0, 6);
        x.stone(0, 36);
        x.restore();
        int[] want = {61, 61, 61, 61, 61, 61, 60};
        for (int r = 1; r <= 7; r++) {
            DUE.is("status(" + (10 + r) + ")", x.status(10 + r), want[r - 1]);
        }
    }
}
