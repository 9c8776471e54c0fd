import java.util.Random;

/** Promises 17 to 24, 27 and 28: way, odds, high, chance, plan, bestStage, bestHand, keep, alike, lying. */
public final class ThoughtTest {
    private static final Due DUE = new Due("ThoughtTest");

    public static void main(String[] args) {
        refused();
        examples();
        details();
        lastOdds();
        againstPlain();
        best();
        DUE.end();
    }

    private static FiveStones fewer() {
        FiveStones x = Made.usual();
        x.stone(4, -1);
        return x;
    }

    private static void refused() {
        int[] sets = {16, 31, 32, 33, -1, Integer.MIN_VALUE, Integer.MAX_VALUE};
        for (int set : sets) {
            DUE.refuses(ThoughtTest::fewer, "way(" + set + ")", x -> x.way(set), -6, -6);
            DUE.refuses(ThoughtTest::fewer, "odds(0, " + set + ", 1)", x -> x.odds(0, set, 1), -6, -6);
            DUE.refuses(ThoughtTest::fewer, "high(0, " + set + ", 0)", x -> x.high(0, set, 0), -6, -6);
            DUE.refuses(ThoughtTest::fewer, "high(0, " + set + ", 2)", x -> x.high(0, set, 2), -5, -5);
        }
        DUE.refuses(Made::usual, "odds(3, 32, 0)", x -> x.odds(3, 32, 0), -1, -1);
        DUE.refuses(Made::usual, "odds(-1, 1, 1)", x -> x.odds(-1, 1, 1), -1, -1);
        DUE.refuses(Made::usual, "odds(0, 1, 0)", x -> x.odds(0, 1, 0), -6, -6);
        DUE.refuses(Made::usual, "odds(0, 1, 10)", x -> x.odds(0, 1, 10), -6, -6);
        DUE.refuses(Made::usual, "high(3, 32, 9)", x -> x.high(3, 32, 9), -1, -1);
        DUE.refuses(Made::usual, "high(0, 1, -1)", x -> x.high(0, 1, -1), -5, -5);
        DUE.refuses(Made::usual, "chance(3, 9)", x -> x.chance(3, 9), -1, -1);
        DUE.refuses(Made::usual, "chance(0, 0)", x -> x.chance(0, 0), -6, -6);
        DUE.refuses(Made::usual, "chance(0, 5)", x -> x.chance(0, 5), -6, -6);
        DUE.refuses(Made::usual, "plan(-1, 9)", x -> x.plan(-1, 9), -1, -1);
        DUE.refuses(Made::usual, "plan(0, 0)", x -> x.plan(0, 0), -6, -6);
        DUE.refuses(Made::usual, "plan(0, 5)", x -> x.plan(0, 5), -6, -6);
        DUE.refuses(Made::usual, "bestStage(3)", x -> x.bestStage(3), -1, -1);
        DUE.refuses(Made::usual, "bestStage(-1)", x -> x.bestStage(-1), -1, -1);
        DUE.refuses(Made::fresh, "bestHand(0)", x -> x.bestHand(0), -5, -5);
        DUE.refuses(Made::usual, "bestHand(0)", x -> x.bestHand(0), -6, -6);
        DUE.refuses(Made::usual, "bestHand(5)", x -> x.bestHand(5), -6, -6);
        DUE.refuses(Made::usual, "keep(3)", x -> x.keep(3), -1, -1);
        DUE.refuses(Made::usual, "keep(-1)", x -> x.keep(-1), -1, -1);
        DUE.refuses(Made::usual, "lying(3)", x -> x.lying(3), -15, -5);
        DUE.refuses(Made::usual, "lying(-1)", x -> x.lying(-1), -15, -5);
    }

    private static void examples() {
        DUE.asks(Made::usual, "way(31)", x -> x.way(31), 10);
        DUE.asks(Made::usual, "odds(0, 1, 3)", x -> x.odds(0, 1, 3), 85);
        DUE.asks(Made::usual, "high(1, 3, 1)", x -> x.high(1, 3, 1), 92);
        DUE.asks(Made::usual, "chance(1, 2)", x -> x.chance(1, 2), 883568);
        DUE.asks(Made::usual, "plan(1, 4)", x -> x.plan(1, 4), 8);
        DUE.asks(Made::usual, "bestStage(0)", x -> x.bestStage(0), 4);
        DUE.asks(Made::usual, "bestHand(1)", x -> x.bestHand(1), 1);
        DUE.asks(Made::usual, "keep(1)", x -> x.keep(1), 4);
        DUE.asks(Made::usual, "alike()", x -> x.alike(), 1060929);
        DUE.asks(Made::usual, "lying(0)", x -> x.lying(0), 5);
        DUE.asks(Made::usual, "lying(1)", x -> x.lying(1), 3);
        DUE.asks(Made::usual, "lying(2)", x -> x.lying(2), 3);
    }

    private static void details() {
        DUE.asks(Made::fresh, "way(0)", x -> x.way(0), 0);
        DUE.asks(Made::fresh, "alike()", x -> x.alike(), 0);
        DUE.asks(Made::fresh, "lying(0)", x -> x.lying(0), 0);
        DUE.asks(Made::fresh, "lying(1)", x -> x.lying(1), 0);
        DUE.asks(Made::fresh, "lying(2)", x -> x.lying(2), -1);
        FiveStones x = Made.usual();
        DUE.is("odds of no stones", x.odds(0, 0, 5), 0);
        DUE.is("high of no stones", x.high(0, 0, 0), 1);
        DUE.is("odds by high of no stones", x.high(0, 0, 1), 0);
        Made.lay(x);
        for (int k = 1; k <= 4; k++) {
            DUE.is("chance of none lying", x.chance(0, k), 1000000);
            DUE.is("plan of none lying", x.plan(0, k), 0);
        }
        DUE.is("bestStage of none lying", x.bestStage(0), 1);
        DUE.is("bestHand of none lying", x.bestHand(3), 0);
        FiveStones cold = Made.fresh();
        cold.hand(6, 9);
        cold.stone(0, 33);
        DUE.is("time below 0", cold.odds(0, 1, 1), 0);
        DUE.is("high of a cold one", cold.high(0, 1, 0), 3);
        FiveStones between = Made.fresh();
        between.hand(0, 0);
        Made.lay(between, 26, 28, 27);
        DUE.is("one near two of a set counts once", between.odds(0, 3, 9), 100 - 27 - 6);
        FiveStones tired = Made.fresh();
        tired.hand(4, 0);
        ShelfTest.tossTimes(tired, 100);
        DUE.is("a tired slip", tired.handOf(0, 5), 13);
        DUE.is("keep of a tired one", tired.keep(0), 2);
        ShelfTest.tossTimes(tired, 100);
        DUE.is("keep of a tired one", tired.keep(0), 1);
        tired.stone(0, 0);
        DUE.is("odds below 0 are 0", tired.odds(0, 1, 9), 0);
        DUE.is("high of a tired one", tired.high(0, 1, 0), 4);
        DUE.is("odds by high", tired.high(0, 1, 1), 100 - 4 * 23);
        FiveStones worn = Made.fresh();
        worn.hand(4, 0);
        for (int t = 0; t < 100; t++) {
            worn.plays(20);
        }
        Made.lay(worn, 33);
        DUE.is("a worn slip", worn.handOf(0, 5) >= 100 ? 1 : 0, 1);
        DUE.is("a worn one keeps none", worn.keep(0), 0);
        DUE.is("high of a worn one", worn.high(0, 1, 0), 1);
        DUE.is("odds by high of a worn one", worn.high(0, 1, 1), 0);
        DUE.is("chance of a worn one", worn.chance(0, 1), 0);
        DUE.is("plan without any chance", worn.plan(0, 1), 1);
    }

    /** Odds of 1 of 100, and the highest toss that is ever best: no four stones have a greater way. */
    private static void lastOdds() {
        FiveStones x = tiredBy(300);
        Made.lay(x, 3);
        DUE.is("slip behind 300 tosses", x.handOf(0, 5), 33);
        DUE.is("high with odds 1", x.high(0, 1, 0), 3);
        DUE.is("odds by high", x.high(0, 1, 1), 1);
        DUE.is("chance with odds 1", x.chance(0, 3), 10000);
        FiveStones y = tiredBy(960);
        DUE.is("slip behind 960 tosses", y.handOf(0, 5), 99);
        DUE.is("keep with odds 1", y.keep(0), 1);
        FiveStones z = Made.fresh();
        z.hand(6, 9);
        Made.lay(z, 30, 0, 14, 5);
        DUE.is("way of all", z.way(15), 22);
        DUE.is("the highest toss", z.high(0, 15, 0), 8);
        DUE.is("its odds", z.high(0, 15, 1), 76);
        DUE.is("its chance", z.chance(0, 4), 760000);
    }

    private static FiveStones tiredBy(int tosses) {
        FiveStones x = Made.fresh();
        x.hand(4, 0);
        while (x.handOf(0, 4) < tosses - 100) {
            x.plays(20);
        }
        ShelfTest.tossTimes(x, tosses - x.handOf(0, 4));
        return x;
    }

    private static void againstPlain() {
        Random random = new Random(3);
        for (int run = 0; run < 250; run++) {
            int[] cells = randomCells(random);
            int kind = random.nextInt(7);
            int a = random.nextInt(10);
            int tosses = random.nextInt(4) == 0 ? random.nextInt(120) : 0;
            FiveStones x = Made.fresh();
            x.hand(kind, a);
            ShelfTest.tossTimes(x, tosses);
            for (int k = 0; k < 5; k++) {
                x.stone(k, -1);
            }
            for (int k = 0; k < 5; k++) {
                x.stone(k, cells[k]);
            }
            Plain plain = new Plain(cells, kind, a, tosses);
            String where = " in run " + run;
            for (int set = 0; set < 32; set++) {
                if ((set & ~plain.lie()) == 0) {
                    DUE.is("way(" + set + ")" + where, x.way(set), plain.way(set));
                    int height = 1 + random.nextInt(9);
                    DUE.is("odds(" + set + ")" + where, x.odds(0, set, height), plain.odds(set, plain.lie(), height));
                    int high = plain.high(set, plain.lie());
                    DUE.is("high(" + set + ")" + where, x.high(0, set, 0), high);
                    DUE.is("by high(" + set + ")" + where, x.high(0, set, 1), plain.odds(set, plain.lie(), high));
                }
            }
            for (int k = 1; k <= 4; k++) {
                int[] chance = plain.chance(k);
                DUE.is("chance of stage " + k + where, x.chance(0, k), chance[0]);
                DUE.is("plan of stage " + k + where, x.plan(0, k), chance[1]);
            }
            DUE.is("keep" + where, x.keep(0), plain.keep());
            DUE.is("alike" + where, x.alike(), plain.alike());
            for (int what = 0; what < 3; what++) {
                DUE.is("lying(" + what + ")" + where, x.lying(what), plain.lying(what));
            }
        }
    }

    static int[] randomCells(Random random) {
        int[] cells = {-1, -1, -1, -1, -1};
        boolean close = random.nextBoolean();
        for (int k = 0; k < 5; k++) {
            int cell = close ? 6 * (3 + random.nextInt(3)) + 2 + random.nextInt(3) : random.nextInt(36);
            boolean free = random.nextInt(5) > 0;
            for (int other = 0; other < k; other++) {
                free &= cells[other] != cell;
            }
            cells[k] = free ? cell : -1;
        }
        return cells;
    }

    private static void best() {
        Random random = new Random(5);
        for (int run = 0; run < 150; run++) {
            FiveStones x = Made.fresh();
            int hands = 1 + random.nextInt(4);
            for (int h = 0; h < hands; h++) {
                x.hand(random.nextInt(7), random.nextInt(10));
            }
            int[] cells = randomCells(random);
            for (int k = 0; k < 5; k++) {
                x.stone(k, cells[k]);
            }
            for (int k = 1; k <= 4; k++) {
                int best = 0;
                for (int h = 1; h < hands; h++) {
                    best = x.chance(h, k) > x.chance(best, k) ? h : best;
                }
                DUE.is("bestHand(" + k + ") in run " + run, x.bestHand(k), best);
            }
            for (int h = 0; h < hands; h++) {
                int best = 1;
                for (int k = 2; k <= 4; k++) {
                    best = x.chance(h, k) > x.chance(h, best) ? k : best;
                }
                DUE.is("bestStage(" + h + ") in run " + run, x.bestStage(h), best);
            }
        }
    }
}
