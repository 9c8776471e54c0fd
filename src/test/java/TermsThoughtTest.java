/** The edges that "WHAT COMES OF IT" and its details name as far as nothing is changed, a method for each sentence. */
public final class TermsThoughtTest {
    private static final Due DUE = new Due("TermsThoughtTest");
    /** Five cells at which no stone is near another and each is picked with height 1. */
    private static final int[] APART = {33, 31, 35, 26, 28};

    public static void main(String[] args) {
        nothingIsChanged();
        setsOfStages();
        againstPlain();
        chanceOfNone();
        cutAtEachSet();
        planOfSeveral();
        planWithoutAnyChance();
        bestStageOfSeveral();
        bestHandOfSeveral();
        keep();
        firstInTurns();
        firstFromWhoseOn();
        turns();
        turnsAtMost();
        alike();
        alikeByShiftsAlone();
        spread();
        near();
        lonely();
        toldOfNoneAndAll();
        toldAsTheyLieThen();
        toldElements();
        tossesDoNotRise();
        DUE.end();
    }

    private static FiveStones worn() {
        return Made.tired(970);
    }

    private static void laySet(FiveStones x, int lie, int[] cells) {
        for (int k = 0; k < 5; k++) {
            x.stone(k, -1);
        }
        for (int k = 0; k < 5; k++) {
            x.stone(k, (lie >> k & 1) == 1 ? cells[k] : -1);
        }
    }

    /** "WHAT COMES OF IT (nothing is changed)". */
    private static void nothingIsChanged() {
        DUE.asks(Made::busy, "way(11)", x -> x.way(11), 6);
        DUE.asks(Made::busy, "odds(0, 1, 9)", x -> x.odds(0, 1, 9), 67);
        DUE.asks(Made::busy, "high(0, 0, 0)", x -> x.high(0, 0, 0), 1);
        DUE.asks(Made::busy, "chance(2, 4)", x -> x.chance(2, 4), 0);
        DUE.asks(Made::busy, "plan(2, 4)", x -> x.plan(2, 4), 11);
        DUE.asks(Made::busy, "bestStage(0)", x -> x.bestStage(0), 2);
        DUE.asks(Made::busy, "bestHand(1)", x -> x.bestHand(1), 1);
        DUE.asks(Made::busy, "keep(3)", x -> x.keep(3), 3);
        DUE.asks(Made::hundred, "first(5, 2, 100)", x -> x.first(5, 2, 100), 1000000);
        DUE.asks(Made::hundred, "turns(5, 0)", x -> x.turns(5, 0), 1);
        DUE.asks(Made::busy, "alike()", x -> x.alike(), 1 << 1 | 1 | 1 << 8);
        DUE.asks(Made::busy, "lying(0)", x -> x.lying(0), 3);
        DUE.asks(Made::busy, "lying(1)", x -> x.lying(1), 1);
        DUE.asks(Made::busy, "lying(2)", x -> x.lying(2), 3);
        DUE.asks(Made::busy, "judge(0, 6, 1)", x -> x.judge(0, 6, 1), -1);
        DUE.asks(Made::busy, "judge(0, 6, 2)", x -> x.judge(0, 6, 2), 1);
        DUE.asks(Made::busy, "told(0, 6, 1)", x -> x.told(0, 6, 1), 910000);
    }

    /**
     * "picked in sets of k, and, if k doesn't divide n, one set of what is left over of n by k"; "with k above n it is
     * all of them": a hand that picks no more than so many tells which sets must be picked.
     */
    private static void setsOfStages() {
        for (int most = 1; most <= 4; most++) {
            FiveStones x = most == 4 ? Made.one(0, 0) : Made.one(1, most - 1);
            for (int n = 1; n <= 5; n++) {
                laySet(x, (1 << n) - 1, APART);
                for (int k = 1; k <= 4; k++) {
                    boolean any = Math.min(k, n) <= most;
                    String of = "stage " + k + " of " + n + ", at most " + most;
                    DUE.is("chance of " + of, x.chance(0, k) > 0 ? 1 : 0, any ? 1 : 0);
                }
            }
        }
    }

    /** "What is left over of n by k is one set, which may come at any place": every number of stones, every stage. */
    private static void againstPlain() {
        int[][] layings = {APART, {33, 32, 34, 27, 26}, {0, 5, 30, 35, 33}, {14, 15, 20, 21, 22}, {27, 26, 20, 34, 14}};
        for (int kind = 0; kind < 7; kind++) {
            for (int[] cells : layings) {
                FiveStones x = Made.one(kind, 5);
                for (int lie : new int[] {0, 1, 2, 16, 3, 20, 7, 21, 15, 30, 31}) {
                    laySet(x, lie, cells);
                    int[] lying = new int[5];
                    for (int k = 0; k < 5; k++) {
                        lying[k] = x.stoneAt(k);
                    }
                    Plain plain = new Plain(lying, kind, 5, 0);
                    for (int k = 1; k <= 4; k++) {
                        String of = " of stage " + k + ", kind " + kind + ", " + lie + " from " + cells[0];
                        DUE.is("chance" + of, x.chance(0, k), plain.chance(k)[0]);
                        DUE.is("plan" + of, x.plan(0, k), plain.chance(k)[1]);
                    }
                }
            }
        }
    }

    /** "CHANCE of none is 1,000,000"; plan(): "0: none LIES". */
    private static void chanceOfNone() {
        for (int k = 1; k <= 4; k++) {
            DUE.is("chance of none, stage " + k, Made.one(0, 0).chance(0, k), 1000000);
            DUE.is("plan of none, stage " + k, Made.one(0, 0).plan(0, k), 0);
            DUE.is("chance of none, worn", worn().chance(0, k), 1000000);
            DUE.is("plan of none, worn", worn().plan(0, k), 0);
        }
    }

    /** "CHANCE is cut at each set": 0.97 to the fifth, cut once, were 858734. */
    private static void cutAtEachSet() {
        FiveStones x = Made.one(0, 0, APART);
        DUE.is("chance of five, one by one", x.chance(0, 1), 858733);
        Made.ints(x, 0, 11, 21, 41, 81, 161);
        DUE.is("told of five, one by one", x.told(0, 0, 5), 858733);
        FiveStones last = Made.tired(300);
        Made.lay(last, 3, 0);
        DUE.is("chance with odds 1 and none", last.chance(0, 1), 0);
        Made.lay(last, 3);
        DUE.is("chance with odds 1", last.chance(0, 1), 10000);
        FiveStones thin = Made.tired(320);
        Made.lay(thin, 20, 24, 35, 5);
        int one = thin.high(0, 1, 1);
        int two = thin.high(0, 2, 1);
        int three = thin.high(0, 4, 1);
        Made.ints(thin, 0, 10 + thin.high(0, 1, 0), 20 + thin.high(0, 2, 0), 40 + thin.high(0, 4, 0));
        DUE.is("told of three", thin.told(0, 0, 3), 1000000 * one / 100 * two / 100 * three / 100);
    }

    /** "PLAN: the set picked first with most, of several the least as bits." */
    private static void planOfSeveral() {
        FiveStones x = Made.one(0, 0, APART);
        for (int lie = 1; lie < 32; lie++) {
            laySet(x, lie, APART);
            DUE.is("plan of stage 1, all alike, of " + lie, x.plan(0, 1), Integer.lowestOneBit(lie));
        }
        FiveStones worse = Made.one(0, 0, 33, 32, 34);
        DUE.is("plan of one that touches two, by others", worse.plan(0, 1), 2);
        Made.lay(worse, 32, 33, 34);
        DUE.is("plan, the least of two", worse.plan(0, 1), 1);
        Made.lay(worse, 33, 32, 34);
        worse.stone(2, -1);
        DUE.is("plan of two that touch", worse.plan(0, 1), 1);
    }

    /** "PLAN is the least set that may be next also if none has any CHANCE." */
    private static void planWithoutAnyChance() {
        FiveStones x = worn();
        int slip = x.handOf(0, 5);
        DUE.is("slip", slip, 100);
        for (int lie : new int[] {1, 16, 3, 24, 7, 21, 28, 15, 23, 30, 31}) {
            laySet(x, lie, APART);
            for (int k = 1; k <= 4; k++) {
                int n = Integer.bitCount(lie);
                int least = 1;
                while ((least & lie) != least || Integer.bitCount(least) != k && Integer.bitCount(least) != n % k) {
                    least++;
                }
                DUE.is("chance of " + lie + ", stage " + k, x.chance(0, k), 0);
                DUE.is("plan of " + lie + ", stage " + k, x.plan(0, k), least);
            }
        }
        FiveStones small = Made.one(1, 0, APART);
        int[] want = {1, 1, 3, 1};
        for (int k = 2; k <= 4; k++) {
            DUE.is("plan of five, stage " + k + ", of a hand for one", small.plan(0, k), want[k - 1]);
        }
    }

    /** "BEST STAGE (1 to 4) of a HAND, as they LIE: the one with most CHANCE, of several the first." */
    private static void bestStageOfSeveral() {
        DUE.is("none lies", Made.one(0, 0).bestStage(0), 1);
        DUE.is("one lies", Made.one(0, 0, 33).bestStage(0), 1);
        DUE.is("two lie: 2, 3 and 4 are the same", Made.one(0, 0, 33, 32).bestStage(0), 2);
        DUE.is("three lie: 3 and 4 are the same", Made.one(0, 0, 33, 32, 34).bestStage(0), 3);
        DUE.is("four lie", Made.one(0, 0, 33, 32, 34, 27).bestStage(0), 4);
        DUE.is("four lie, two picked at most", Made.one(1, 1, 33, 32, 34, 27).bestStage(0), 2);
        DUE.is("four lie, one picked at most", Made.one(1, 0, 33, 32, 34, 27).bestStage(0), 1);
        FiveStones x = worn();
        Made.lay(x, APART);
        DUE.is("no stage has any", x.bestStage(0), 1);
    }

    /** "BEST HAND for a STAGE: likewise." */
    private static void bestHandOfSeveral() {
        FiveStones x = Made.one(0, 0, APART);
        for (int k = 1; k <= 4; k++) {
            DUE.is("one hand, stage " + k, x.bestHand(k), 0);
        }
        x.hand(0, 0);
        DUE.is("two that are the same", x.bestHand(1), 0);
        x.hand(3, 0);
        DUE.is("a sure one behind them", x.bestHand(1), 2);
        x.hand(3, 9);
        DUE.is("two sure ones", x.bestHand(1), 2);
        Made.lay(x, 0, 5, 30, 35, 14);
        DUE.is("the last of four", x.bestHand(4), 3);
        Made.lay(x);
        DUE.is("none lies", x.bestHand(4), 0);
        FiveStones none = Made.one(1, 0, APART);
        none.hand(5, 0);
        none.hand(1, 3);
        DUE.is("no hand has any", none.bestHand(4), 0);
        DUE.is("the first of two", none.bestHand(1), 0);
        none.hand(0, 0);
        DUE.is("only the last has any", none.bestHand(4), 3);
    }

    /** "BACK: of k STONES (0 to 5) ..."; "KEEP: the k for which k times ODDS is most"; "KEEP is 0 if no k brings any." */
    private static void keep() {
        int[][] tired = {
            {0, 3}, {9, 3}, {10, 3}, {20, 3}, {29, 3}, {30, 2}, {110, 2}, {119, 2}, {120, 1}, {960, 1}, {969, 1},
            {970, 0}, {980, 0},
        };
        for (int[] each : tired) {
            DUE.is("keep behind " + each[0] + " tosses", Made.tired(each[0]).keep(0), each[1]);
        }
        int[] kinds = {3, 3, 3, 4, 3, 3, 3};
        for (int kind = 0; kind < 7; kind++) {
            DUE.is("keep of kind " + kind, Made.one(kind, 9).keep(0), kinds[kind]);
        }
    }

    private static FiveStones chances(int... chances) {
        FiveStones x = new FiveStones();
        for (int chance : chances) {
            x.hand(0, chance % 10);
        }
        Made.ints(x, 0, chances);
        return x;
    }

    /** "in n turns (1 to 100): of what is left ... times the chance by 100 (cut) goes to the HAND whose turn it is". */
    private static void firstInTurns() {
        DUE.is("none of it", chances(0).first(0, 0, 100), 0);
        DUE.is("all of it at once", chances(100).first(0, 0, 1), 1000000);
        DUE.is("no more than all of it", chances(100).first(0, 0, 100), 1000000);
        int[][] of99 = {{1, 990000}, {2, 999900}, {3, 999999}, {4, 999999}, {100, 999999}};
        for (int[] each : of99) {
            DUE.is("99 of 100 in " + each[0] + " turns", chances(99).first(0, 0, each[0]), each[1]);
        }
        DUE.is("1 of 100 in one turn", chances(1).first(0, 0, 1), 10000);
        DUE.is("1 of 100 in two turns", chances(1).first(0, 0, 2), 19900);
        DUE.is("1 of 100 in 100 turns is more than in 99", chances(1).first(0, 0, 100) - chances(1).first(0, 0, 99), 3697);
    }

    /** "each HAND in its turn, from WHOSE on", behind the last the first. */
    private static void firstFromWhoseOn() {
        for (int whose = 0; whose < 4; whose++) {
            for (int hand = 0; hand < 4; hand++) {
                FiveStones x = chances(0, 0, 0, 0);
                x.turn(whose);
                x.set(0, hand, 100);
                int turn = (hand - whose + 4) % 4 + 1;
                for (int n = 1; n <= 9; n++) {
                    DUE.is("first of " + hand + " from " + whose + " in " + n, x.first(0, hand, n), n < turn ? 0 : 1000000);
                }
                DUE.is("first of another", x.first(0, (hand + 1) % 4, 100), 0);
                DUE.is("turns from " + whose + " to " + hand, x.turns(0, 0), turn);
            }
        }
    }

    /** "TURNS: the fewest turns behind which no more than f of 1,000,000 is left"; "TURNS is 0 of f 1,000,000." */
    private static void turns() {
        int[][] of99 = {{1000000, 0}, {999999, 1}, {10000, 1}, {9999, 2}, {100, 2}, {99, 3}, {1, 3}, {0, -1}};
        for (int[] each : of99) {
            DUE.is("turns to " + each[0] + " left", chances(99).turns(0, each[0]), each[1]);
        }
        DUE.is("no turn is needed", chances(0).turns(0, 1000000), 0);
        DUE.is("never", chances(0).turns(0, 999999), -1);
        DUE.is("at once", chances(100).turns(0, 0), 1);
    }

    /** turns(): "1000 at most": only hand 3 ever gets through, in the 4th turn, the 8th, .. the 1000th. */
    private static void turnsAtMost() {
        FiveStones x = chances(0, 0, 0, 1);
        int left = 1000000;
        for (int t = 0; t < 250; t++) {
            left -= left / 100;
        }
        DUE.is("turns that end with the 1000th", x.turns(0, left), 1000);
        DUE.is("turns that don't", x.turns(0, left - 1), -1);
        x.turn(3);
        DUE.is("turns that end with the 997th", x.turns(0, left), 997);
        DUE.is("turns that would end with the 1001st", x.turns(0, left - left / 100), -1);
    }

    /** "the least CELL numbers, as bits, to which the CELLS ... can be shifted by rows and columns"; "0 if none LIES". */
    private static void alike() {
        DUE.is("none lies", Made.fresh().alike(), 0);
        for (int cell = 0; cell < 36; cell++) {
            DUE.is("one in " + cell, Made.one(0, 0, cell).alike(), 1);
        }
        DUE.is("the first and the last cell", Made.one(0, 0, 0, 35).alike(), 1L | 1L << 35);
        DUE.is("the other corners", Made.one(0, 0, 30, 5).alike(), 1L << 5 | 1L << 30);
        DUE.is("all corners", Made.one(0, 0, 35, 30, 5, 0).alike(), 1L | 1L << 5 | 1L << 30 | 1L << 35);
        DUE.is("the last column", Made.one(0, 0, 35, 29, 23, 17, 11).alike(), 1L | 1L << 6 | 1L << 12 | 1L << 18 | 1L << 24);
        DUE.is("the last row", Made.one(0, 0, 31, 32, 33, 34, 35).alike(), 31);
        DUE.is("two ends of rows stay", Made.one(0, 0, 5, 6).alike(), 1 << 5 | 1 << 6);
        DUE.is("two ends of rows, lower", Made.one(0, 0, 29, 30).alike(), 1 << 5 | 1 << 6);
        FiveStones x = Made.one(0, 0, 14, 15, 20);
        x.stone(0, -1);
        DUE.is("one that is up doesn't count", x.alike(), 1 << 1 | 1 << 6);
    }

    /** "LAYINGS that are the same when shifted"; "ALIKE goes by shifts alone", not by turns, and not by which STONE. */
    private static void alikeByShiftsAlone() {
        for (int down = 0; down < 5; down++) {
            for (int right = 0; right < 5; right++) {
                int cell = 6 * down + right;
                DUE.is("an angle in " + cell, Made.one(0, 0, cell, cell + 1, cell + 6).alike(), 67);
                DUE.is("in another order", Made.one(0, 0, cell + 6, cell, cell + 1).alike(), 67);
                DUE.is("turned", Made.one(0, 0, cell, cell + 1, cell + 7).alike(), 131);
                DUE.is("turned twice", Made.one(0, 0, cell + 1, cell + 6, cell + 7).alike(), 194);
                DUE.is("turned back", Made.one(0, 0, cell, cell + 6, cell + 7).alike(), 193);
            }
        }
    }

    /** "SPREAD: the greatest FAR of two that LIE"; lying(): "0 of fewer than two". */
    private static void spread() {
        DUE.is("of none", Made.fresh().lying(0), 0);
        DUE.is("of one", Made.one(0, 0, 35).lying(0), 0);
        DUE.is("of two side by side", Made.one(0, 0, 35, 34).lying(0), 1);
        DUE.is("of two corners", Made.one(0, 0, 35, 0).lying(0), 10);
        DUE.is("of the last two of five", Made.one(0, 0, 14, 15, 20, 30, 5).lying(0), 10);
        FiveStones x = Made.one(0, 0, 0, 14, 35);
        x.stone(2, -1);
        DUE.is("one that is up doesn't count", x.lying(0), 4);
    }

    /** "NEAR: pairs that are FAR 1." */
    private static void near() {
        DUE.is("of none", Made.fresh().lying(1), 0);
        DUE.is("of one", Made.one(0, 0, 35).lying(1), 0);
        DUE.is("of two, FAR 2", Made.one(0, 0, 35, 28).lying(1), 0);
        DUE.is("of five, as many as may be", Made.one(0, 0, 14, 15, 20, 21, 16).lying(1), 5);
        DUE.is("of five in a cross", Made.one(0, 0, 14, 13, 15, 8, 20).lying(1), 4);
        DUE.is("of ends of rows", Made.one(0, 0, 5, 6, 11, 12).lying(1), 2);
        FiveStones x = Made.one(0, 0, 0, 1, 2);
        x.stone(1, -1);
        DUE.is("one that is up doesn't count", x.lying(1), 0);
    }

    /** "LONELY: the STONE that LIES with the greatest FAR to the nearest other, of several the first"; "NONE of fewer". */
    private static void lonely() {
        DUE.is("of none", Made.fresh().lying(2), -1);
        for (int k = 0; k < 5; k++) {
            FiveStones x = Made.fresh();
            x.stone(k, 14);
            DUE.is("of one", x.lying(2), -1);
        }
        FiveStones two = Made.fresh();
        two.stone(4, 0);
        two.stone(2, 35);
        DUE.is("of two, both as far", two.lying(2), 2);
        DUE.is("the last of five", Made.one(0, 0, 0, 1, 6, 7, 35).lying(2), 4);
        DUE.is("by the nearest, not the farthest", Made.one(0, 0, 34, 35, 2, 0, 4).lying(2), 2);
        DUE.is("of several the first", Made.one(0, 0, 14, 15, 0, 35, 30).lying(2), 3);
        DUE.is("all as near", Made.one(0, 0, 14, 15, 20, 21).lying(2), 0);
    }

    /** A told TURN: none of it, one toss for each STONE, and one more; 20 elements at most. */
    private static void toldOfNoneAndAll() {
        FiveStones x = Made.one(0, 0, APART);
        Made.ints(x, 0, 11, 21, 41, 81, 161, 11, 0, 0, 0, 0, 0, 0, 0, 0, 0, 0, 0, 0, 0, 0, 0);
        for (int n = 0; n <= 5; n++) {
            DUE.is("judge of the first " + n, x.judge(0, 0, n), -1);
        }
        DUE.is("told of none", x.told(0, 0, 0), 1000000);
        DUE.is("told of one", x.told(0, 0, 1), 970000);
        for (int n = 6; n <= 20; n++) {
            DUE.is("judge of the first " + n, x.judge(0, 0, n), 5);
            DUE.is("told of the first " + n, x.told(0, 0, n), -6);
        }
        DUE.is("judge of 21", x.judge(0, 0, 21), -16);
        x.row(1, 0, 0);
        DUE.is("judge by a row of none", x.judge(0, 1, 0), -1);
        DUE.is("told by a row of none", x.told(0, 1, 0), 1000000);
        DUE.is("judge of a set of some that are up then", judged(x, 11, 31), 1);
        DUE.is("judge of none lying", judged(Made.one(0, 0), 11), 0);
    }

    private static int judged(FiveStones x, int... tosses) {
        Made.ints(x, 7, tosses);
        return x.judge(0, 7, tosses.length);
    }

    /** "WRONG: the first whose ODDS are 0 as they LIE then": 22 less 24 for four beside it, less 18 for three. */
    private static void toldAsTheyLieThen() {
        FiveStones x = Made.tired(230);
        Made.lay(x, 27, 33, 26, 28, 21);
        DUE.is("slip", x.handOf(0, 5), 26);
        DUE.is("judge with four beside it", judged(x, 13), 0);
        DUE.is("judge with three beside it then", judged(x, 23, 13), -1);
        DUE.is("its chance", x.told(0, 7, 2), 1000000 * 16 / 100 * 4 / 100);
        DUE.is("judge of the one that is up", judged(x, 23, 23, 13), 1);
    }

    /** "10 times a set (bits) and a HEIGHT": heights 1 to 9, sets of what lies, and numbers that are none of these. */
    private static void toldElements() {
        FiveStones x = Made.one(0, 0, 33, 32, 34, 27, 26);
        int[] good = {11, 19, 21, 29, 152, 159, 169, 302, 309};
        for (int toss : good) {
            DUE.is("judge of " + toss, judged(x, toss), -1);
            DUE.is("told of " + toss, x.told(0, 7, 1), 10000 * x.odds(0, toss / 10, toss % 10));
        }
        int[] wrong = {0, 1, 9, 10, 20, 151, 301, 310, 311, 319, 320, 321, 329, 331, -1, -9, -10, -11, -19, -311, 3200001,
            Integer.MAX_VALUE, Integer.MIN_VALUE};
        for (int toss : wrong) {
            DUE.is("judge of " + toss, judged(x, toss), 0);
            DUE.is("told of " + toss, x.told(0, 7, 1), -6);
        }
        x.row(7, 0, 1);
        x.set(7, 0, 11 + 256);
        DUE.is("judge of a byte's lowest bits", x.judge(0, 7, 1), -1);
        x.set(7, 0, 151);
        DUE.is("judge of a byte below 0", x.judge(0, 7, 1), 0);
        x.row(7, 3, 1);
        x.set(7, 0, 11 + (5L << 32));
        DUE.is("judge of a long's lowest 32 bits", x.judge(0, 7, 1), -1);
        x.set(7, 0, 5L << 32);
        DUE.is("judge of a long whose lowest 32 bits are 0", x.judge(0, 7, 1), 0);
    }

    /** "TOSSES do not rise in thought": behind 9 tosses, a tenth would make a TIRED hand slip more. */
    private static void tossesDoNotRise() {
        FiveStones x = Made.tired(9);
        Made.lay(x, APART);
        DUE.is("chance of five", x.chance(0, 1), 858733);
        Made.ints(x, 0, 11, 21, 41, 81, 161);
        DUE.is("told of five", x.told(0, 0, 5), 858733);
        DUE.is("tosses", x.handOf(0, 4), 9);
        DUE.is("slip", x.handOf(0, 5), 3);
    }
}
