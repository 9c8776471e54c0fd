import java.util.Random;

/** Promises 31 to 34: toss, throwDown, plays, seed. */
public final class TruthTest {
    private static final Due DUE = new Due("TruthTest");

    public static void main(String[] args) {
        tosses();
        stages();
        throwsDown();
        rounds();
        DUE.end();
    }

    private static int seedOf(int seed) {
        return seed * 1103515245 + 12345;
    }

    private static int drawOf(int seed, int n) {
        return (seed >>> 16) % n;
    }

    private static void tosses() {
        Random random = new Random(17);
        int done = 0;
        for (int run = 0; run < 600; run++) {
            FiveStones x = Made.usual();
            int seed = random.nextInt();
            x.seed(seed);
            int whose = random.nextInt(3);
            x.turn(whose);
            int set = 1 + random.nextInt(31);
            int height = 1 + random.nextInt(9);
            int odds = x.odds(whose, set, height);
            boolean goes = drawOf(seedOf(seed), 100) < odds;
            done += goes ? 1 : 0;
            int level = x.handOf(whose, 2);
            String call = "toss(" + set + ", " + height + ") in run " + run;
            DUE.is(call, x.toss(set, height), goes ? 1 : 0);
            DUE.is("seed behind " + call, x.status(5), seedOf(seed));
            DUE.is("lying behind " + call, x.status(1), goes ? 31 & ~set : 0);
            DUE.is("whose behind " + call, x.status(2), goes ? whose : (whose + 1) % 3);
            DUE.is("faults behind " + call, x.status(4), goes ? 0 : 1);
            DUE.is("tosses behind " + call, x.handOf(whose, 4), 1);
            DUE.is("all tosses behind " + call, x.status(3), 1);
            DUE.is("stage behind " + call, x.handOf(whose, 2), level);
        }
        DUE.is("some are done, some not", done > 100 && done < 500 ? 1 : 0, 1);
    }

    private static void stages() {
        FiveStones x = Made.fresh();
        x.hand(3, 9);
        for (int t = 1; t <= 12; t++) {
            x.seed(0);
            x.stone(2, 27);
            DUE.is("toss " + t, x.toss(4, 1), 1);
            DUE.is("stage behind " + t, x.handOf(0, 2), t % 4 + 1);
            DUE.is("rounds behind " + t, x.handOf(0, 3), t / 4);
        }
        x.stage(0, 4);
        x.stone(0, 27);
        x.stone(1, 28);
        DUE.is("toss of one of two", x.toss(1, 1), 1);
        DUE.is("stage while one lies", x.handOf(0, 2), 4);
        x.stone(4, 0);
        DUE.is("a toss too low", x.toss(16, 1), 0);
        DUE.is("stage behind a fault", x.handOf(0, 2), 4);
        DUE.is("rounds behind a fault", x.handOf(0, 3), 3);
        DUE.is("whose turn of one hand", x.status(2), 0);
        DUE.is("status(1)", x.status(1), 0);
    }

    private static void throwsDown() {
        DUE.asks(Made::usual, "throwDown(2) of none up", x -> x.throwDown(2), 0);
        Random random = new Random(19);
        for (int run = 0; run < 600; run++) {
            FiveStones x = Made.fresh();
            int[] cells = ThoughtTest.randomCells(random);
            for (int k = 0; k < 5; k++) {
                x.stone(k, cells[k]);
            }
            int seed = random.nextInt();
            x.seed(seed);
            int force = random.nextInt(3);
            int came = 0;
            for (int k = 0; k < 5; k++) {
                if (cells[k] < 0) {
                    seed = seedOf(seed);
                    int row = 2 + drawOf(seed, 2 * force + 2) - force;
                    seed = seedOf(seed);
                    int cell = 6 * row + 2 + drawOf(seed, 2 * force + 2) - force;
                    while (cell == cells[0] || cell == cells[1] || cell == cells[2] || cell == cells[3] || cell == cells[4]) {
                        cell = (cell + 1) % 36;
                    }
                    cells[k] = cell;
                    came++;
                }
            }
            DUE.is("throwDown(" + force + ") in run " + run, x.throwDown(force), came);
            for (int k = 0; k < 5; k++) {
                DUE.is("stoneAt(" + k + ") behind it", x.stoneAt(k), cells[k]);
            }
            DUE.is("seed behind it", x.status(5), seed);
        }
    }

    /** The same rounds by plan, high, toss and throwDown on a second object. */
    private static void rounds() {
        Random random = new Random(23);
        for (int run = 0; run < 400; run++) {
            int n = 1 + random.nextInt(run < 380 ? 6 : 14);
            FiveStones x = Made.fresh();
            FiveStones y = Made.fresh();
            int hands = 1 + random.nextInt(4);
            int[] cells = ThoughtTest.randomCells(random);
            int seed = random.nextInt();
            int whose = random.nextInt(hands);
            for (int h = 0; h < hands; h++) {
                int kind = random.nextInt(7);
                int a = random.nextInt(10);
                int level = 1 + random.nextInt(4);
                for (FiveStones each : new FiveStones[] {x, y}) {
                    each.hand(kind, a);
                    each.stage(h, level);
                }
            }
            for (FiveStones each : new FiveStones[] {x, y}) {
                each.seed(seed);
                each.turn(whose);
                for (int k = 0; k < 5; k++) {
                    each.stone(k, cells[k]);
                }
            }
            int faults = 0;
            for (int round = 0; round < n; round++) {
                faults += playByHand(y);
            }
            DUE.is("plays(" + n + ") in run " + run, x.plays(n), faults);
            DUE.is("plays(1) more in run " + run, x.plays(1), playByHand(y));
            DUE.is("as by hand in run " + run, Due.picture(x).equals(Due.picture(y)) ? 1 : 0, 1);
        }
    }

    private static int playByHand(FiveStones y) {
        y.throwDown(1);
        int who = y.status(2);
        for (int t = 0; t < 5 && y.status(1) != 0; t++) {
            int set = y.plan(who, y.handOf(who, 2));
            if (y.toss(set, y.high(who, set, 0)) == 0) {
                return 1;
            }
        }
        return 0;
    }
}
