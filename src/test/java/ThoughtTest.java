import java.util.Random;

/** Promises 17 to 24, 27 and 28: way, odds, high, chance, plan, bestStage, bestHand, keep, alike, lying. */
public final class ThoughtTest {
    private static final Due DUE = new Due("ThoughtTest");

    public static void main(String[] args) {
        examples();
        againstPlain();
        best();
        DUE.end();
    }

    private static void examples() {
        DUE.asks(Made::usual, "way(31)", x -> x.way(31), 10);
        DUE.asks(Made::usual, "odds(0, 1, 3)", x -> x.odds(0, 1, 3), 85);
        DUE.asks(Made::usual, "high(1, 3, 1)", x -> x.high(1, 3, 1), 92);
        DUE.asks(Made::usual, "chance(1, 2)", x -> x.chance(1, 2), 883568);
        DUE.asks(Made::usual, "plan(1, 4)", x -> x.plan(1, 4), 8);
        DUE.asks(Made::usual, "bestStage(0)", x -> x.bestStage(0), 4);
        DUE.asks(Made::usual, "bestHand(1)", x -> x.bestHand(1), 1);
        DUE.asks(Made::usual, "keep(1)", x -> x.keep(1), 4);
        DUE.asks(Made::usual, "alike()", x -> x.alike(), 1060929);
        DUE.asks(Made::usual, "lying(0)", x -> x.lying(0), 5);
        DUE.asks(Made::usual, "lying(1)", x -> x.lying(1), 3);
        DUE.asks(Made::usual, "lying(2)", x -> x.lying(2), 3);
    }

    private static void againstPlain() {
        Random random = new Random(3);
        for (int run = 0; run < 250; run++) {
            int[] cells = randomCells(random);
            int kind = random.nextInt(7);
            int a = random.nextInt(10);
            int tosses = random.nextInt(4) == 0 ? random.nextInt(120) : 0;
            FiveStones x = Made.fresh();
            x.hand(kind, a);
            Made.tossTimes(x, tosses);
            for (int k = 0; k < 5; k++) {
                x.stone(k, -1);
            }
            for (int k = 0; k < 5; k++) {
                x.stone(k, cells[k]);
            }
            Plain plain = new Plain(cells, kind, a, tosses);
            String where = " in run " + run;
            for (int set = 0; set < 32; set++) {
                if ((set & ~plain.lie()) == 0) {
                    DUE.is("way(" + set + ")" + where, x.way(set), plain.way(set));
                    int height = 1 + random.nextInt(9);
                    DUE.is("odds(" + set + ")" + where, x.odds(0, set, height), plain.odds(set, plain.lie(), height));
                    int high = plain.high(set, plain.lie());
                    DUE.is("high(" + set + ")" + where, x.high(0, set, 0), high);
                    DUE.is("by high(" + set + ")" + where, x.high(0, set, 1), plain.odds(set, plain.lie(), high));
                }
            }
            for (int k = 1; k <= 4; k++) {
                int[] chance = plain.chance(k);
                DUE.is("chance of stage " + k + where, x.chance(0, k), chance[0]);
                DUE.is("plan of stage " + k + where, x.plan(0, k), chance[1]);
            }
            DUE.is("keep" + where, x.keep(0), plain.keep());
            DUE.is("alike" + where, x.alike(), plain.alike());
            for (int what = 0; what < 3; what++) {
                DUE.is("lying(" + what + ")" + where, x.lying(what), plain.lying(what));
            }
        }
    }

    static int[] randomCells(Random random) {
        int[] cells = {-1, -1, -1, -1, -1};
        boolean close = random.nextBoolean();
        for (int k = 0; k < 5; k++) {
            int cell = close ? 6 * (3 + random.nextInt(3)) + 2 + random.nextInt(3) : random.nextInt(36);
            boolean free = random.nextInt(5) > 0;
            for (int other = 0; other < k; other++) {
                free &= cells[other] != cell;
            }
            cells[k] = free ? cell : -1;
        }
        return cells;
    }

    private static void best() {
        Random random = new Random(5);
        for (int run = 0; run < 150; run++) {
            FiveStones x = Made.fresh();
            int hands = 1 + random.nextInt(4);
            for (int h = 0; h < hands; h++) {
                x.hand(random.nextInt(7), random.nextInt(10));
            }
            int[] cells = randomCells(random);
            for (int k = 0; k < 5; k++) {
                x.stone(k, cells[k]);
            }
            for (int k = 1; k <= 4; k++) {
                int best = 0;
                for (int h = 1; h < hands; h++) {
                    best = x.chance(h, k) > x.chance(best, k) ? h : best;
                }
                DUE.is("bestHand(" + k + ") in run " + run, x.bestHand(k), best);
            }
            for (int h = 0; h < hands; h++) {
                int best = 1;
                for (int k = 2; k <= 4; k++) {
                    best = x.chance(h, k) > x.chance(h, best) ? k : best;
                }
                DUE.is("bestStage(" + h + ") in run " + run, x.bestStage(h), best);
            }
        }
    }
}
