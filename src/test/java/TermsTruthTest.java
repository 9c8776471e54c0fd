/** The edges that "IN TRUTH" and its details name, a method for each sentence: draws, tosses, throws and rounds. */
public final class TermsTruthTest {
    private static final Due DUE = new Due("TermsTruthTest");
    private static final int[] APART = {33, 31, 35, 26, 28};

    public static void main(String[] args) {
        drawsThatWrap();
        drawsWithoutSign();
        belowTheOdds();
        withoutOdds();
        onlyTheSetIsUp();
        stageAndRounds();
        faultTakesAllUp();
        nextHandsTurn();
        tossesEitherWay();
        tiredByTosses();
        forces();
        thrownByNumbers();
        nextCellByNumbers();
        noneAndAllThrown();
        roundsFromWhatLies();
        faultsOfThese();
        longestPlay();
        stageAheadOfEachToss();
        seeds();
        calls();
        DUE.end();
    }

    private static int seedOf(int seed) {
        return seed * 1103515245 + 12345;
    }

    private static int drawOf(int seed, int n) {
        return (seedOf(seed) >>> 16) % n;
    }

    /** A seed whose next draws below n are these. */
    private static int seedFor(int n, int... draws) {
        for (int seed = 0; seed < 10000000; seed++) {
            int at = seed;
            boolean so = true;
            for (int draw : draws) {
                so &= drawOf(at, n) == draw;
                at = seedOf(at);
            }
            if (so) {
                return seed;
            }
        }
        DUE.is("a seed for draws below " + n, 0, 1);
        return 0;
    }

    /** "SEED times 1103515245, and 12345 (an int, wrapping)". */
    private static void drawsThatWrap() {
        int[][] seeds = {
            {0, 12345}, {1, 1103527590}, {2, -2087924461}, {-1, -1103502900}, {Integer.MAX_VALUE, 1043980748},
            {Integer.MIN_VALUE, -2147471303}, {65536, 1315778617},
        };
        for (int[] each : seeds) {
            FiveStones x = Made.one(0, 0, 33);
            x.seed(each[0]);
            x.toss(1, 1);
            DUE.is("SEED behind " + each[0], x.status(5), each[1]);
        }
    }

    /** "its upper 16 bits, no sign, modulo n": with the top bit set, the draw of a throw stays from 0 on. */
    private static void drawsWithoutSign() {
        for (int start = 0; start < 40; start++) {
            int seed = start * 104729 - 2000000;
            FiveStones x = Made.fresh();
            x.seed(seed);
            x.throwDown(2);
            int row = (seedOf(seed) >>> 16) % 6;
            int column = (seedOf(seedOf(seed)) >>> 16) % 6;
            DUE.is("stone 0 thrown by " + seed, x.stoneAt(0), 6 * row + column);
        }
        FiveStones top = Made.fresh();
        top.seed(2);
        top.throwDown(2);
        DUE.is("upper bits 33676 below 6: 4, then 2", top.stoneAt(0), 6 * 4 + (seedOf(seedOf(2)) >>> 16) % 6);
    }

    /** "a DRAW below 100: below the ODDS it is done". */
    private static void belowTheOdds() {
        int[][] draws = {{0, 1}, {96, 1}, {97, 0}, {99, 0}};
        for (int[] each : draws) {
            FiveStones x = Made.one(0, 0, 33);
            x.seed(seedFor(100, each[0]));
            DUE.is("odds 97, draw " + each[0], x.toss(1, 1), each[1]);
        }
        for (int draw = 0; draw <= 2; draw++) {
            FiveStones x = Made.tired(300);
            Made.lay(x, 3);
            x.seed(seedFor(100, draw));
            DUE.is("odds 1, draw " + draw, x.toss(1, 3), draw == 0 ? 1 : 0);
        }
    }

    /** "A toss with ODDS 0 makes its DRAW, too", and is a FAULT even if it draws 0. */
    private static void withoutOdds() {
        FiveStones x = Made.one(0, 0, 0, 33);
        int seed = seedFor(100, 0);
        x.seed(seed);
        DUE.is("a toss too low", x.toss(1, 1), 0);
        DUE.is("its draw", x.status(5), seedOf(seed));
        DUE.is("its fault", x.status(4), 1);
        FiveStones five = Made.one(0, 0, APART);
        five.seed(seed);
        DUE.is("a toss for more than MOST", five.toss(31, 9), 0);
        DUE.is("its draw", five.status(5), seedOf(seed));
        FiveStones refused = Made.one(0, 0, 33);
        refused.seed(seed);
        DUE.is("a refused toss", refused.toss(0, 1), -6);
        DUE.is("no draw", refused.status(5), seed);
    }

    /** "it is done: the set is UP", the others LIE as they did. */
    private static void onlyTheSetIsUp() {
        for (int set : new int[] {1, 16, 3, 17, 14, 15, 30}) {
            FiveStones x = Made.one(0, 0, APART);
            x.seed(0);
            DUE.is("toss of " + set, x.toss(set, 9), 1);
            for (int k = 0; k < 5; k++) {
                DUE.is("stone " + k + " behind " + set, x.stoneAt(k), (set >> k & 1) == 1 ? -1 : APART[k]);
            }
            DUE.is("stage while some lie", x.handOf(0, 2), 1);
            DUE.is("whose turn", x.status(2), 0);
        }
    }

    /** "if none LIES then, STAGE is 1 more (behind 4: 1, and ROUNDS 1 more)". */
    private static void stageAndRounds() {
        for (int stage = 1; stage <= 4; stage++) {
            for (int n = 1; n <= 4; n++) {
                FiveStones x = Made.hands(3);
                Made.lay(x);
                for (int k = 0; k < n; k++) {
                    x.stone(k, APART[k]);
                }
                x.turn(0);
                x.stage(0, stage);
                x.seed(0);
                DUE.is("toss of all " + n + ", stage " + stage, x.toss((1 << n) - 1, 9), 1);
                DUE.is("stage behind " + stage, x.handOf(0, 2), stage == 4 ? 1 : stage + 1);
                DUE.is("rounds behind " + stage, x.handOf(0, 3), stage == 4 ? 1 : 0);
                DUE.is("stage of another", x.handOf(1, 2), 1);
                DUE.is("rounds of another", x.handOf(1, 3), 0);
                DUE.is("whose turn", x.status(2), 0);
                DUE.is("faults", x.status(4), 0);
            }
        }
    }

    /** "Else a FAULT: all are UP"; "A FAULT leaves STAGE", also if none would LIE behind the toss. */
    private static void faultTakesAllUp() {
        for (int n = 1; n <= 5; n++) {
            FiveStones x = Made.one(0, 0);
            for (int k = 0; k < n; k++) {
                x.stone(k, APART[k]);
            }
            x.stage(0, 4);
            x.seed(seedFor(100, 99));
            DUE.is("toss of one of " + n, x.toss(1, 1), 0);
            DUE.is("all are up", x.status(1), 0);
            DUE.is("stage", x.handOf(0, 2), 4);
            DUE.is("rounds", x.handOf(0, 3), 0);
            DUE.is("faults", x.status(4), 1);
        }
    }

    /** "it is the next HAND's turn (behind the last the first's)". */
    private static void nextHandsTurn() {
        for (int n = 1; n <= 4; n++) {
            for (int whose = 0; whose < n; whose++) {
                FiveStones x = Made.hands(n);
                x.turn(whose);
                x.seed(seedFor(100, 99));
                DUE.is("a fault of " + whose + " of " + n, x.toss(1, 9), 0);
                DUE.is("whose turn behind " + whose + " of " + n, x.status(2), whose == n - 1 ? 0 : whose + 1);
            }
        }
    }

    /** "TOSSES are 1 more either way", of the hand that tossed. */
    private static void tossesEitherWay() {
        for (int draw : new int[] {0, 99}) {
            FiveStones x = Made.hands(4);
            x.turn(2);
            x.seed(seedFor(100, draw));
            DUE.is("toss with draw " + draw, x.toss(1, 1), draw == 0 ? 1 : 0);
            for (int h = 0; h < 4; h++) {
                DUE.is("tosses of " + h, x.handOf(h, 4), h == 2 ? 1 : 0);
            }
            DUE.is("tosses of all", x.status(3), 1);
        }
    }

    /** The tenth toss itself is tossed as the ninth was, the eleventh is not. */
    private static void tiredByTosses() {
        for (int tosses = 9; tosses <= 10; tosses++) {
            FiveStones x = Made.tired(tosses);
            Made.lay(x, 33);
            x.seed(seedFor(100, 96));
            DUE.is("draw 96 behind " + tosses + " tosses", x.toss(1, 1), tosses == 9 ? 1 : 0);
        }
    }

    /** "A THROW with FORCE (0 to 2): ... row 2 and column 2, each moved by a DRAW below (2 times FORCE, plus 2)". */
    private static void forces() {
        for (int force = 0; force <= 2; force++) {
            int below = 2 * force + 2;
            for (int row = 0; row < below; row++) {
                for (int column = 0; column < below; column++) {
                    FiveStones x = Made.one(0, 0, 33, 32, 34, 35);
                    x.seed(seedFor(below, row, column));
                    int cell = 6 * (2 + row - force) + 2 + column - force;
                    boolean taken = cell >= 32 && cell <= 35;
                    DUE.is("throwDown(" + force + ")", x.throwDown(force), 1);
                    DUE.is("draws " + row + ", " + column + " with " + force, x.stoneAt(4), taken ? 0 : cell);
                }
            }
        }
    }

    /** "all that are UP come to LIE, by numbers": one draw for rows, one for columns, stone after stone. */
    private static void thrownByNumbers() {
        FiveStones x = Made.fresh();
        x.stone(1, 35);
        x.stone(3, 0);
        int seed = 4711;
        x.seed(seed);
        int[] cells = {-1, 35, -1, 0, -1};
        for (int k = 0; k < 5; k += 2) {
            int row = 2 + drawOf(seed, 2);
            int column = 2 + drawOf(seedOf(seed), 2);
            seed = seedOf(seedOf(seed));
            int cell = 6 * row + column;
            while (cell == cells[0] || cell == cells[2]) {
                cell++;
            }
            cells[k] = cell;
        }
        DUE.is("throwDown(0) of three", x.throwDown(0), 3);
        for (int k = 0; k < 5; k++) {
            DUE.is("stone " + k, x.stoneAt(k), cells[k]);
        }
        DUE.is("six draws", x.status(5), seed);
    }

    /** "if one LIES there, the next CELL by numbers in which none does (behind 35: 0)". */
    private static void nextCellByNumbers() {
        // where it is thrown to, where it comes to lie, and the cells that are taken
        int[][] layings = {
            {14, 15, 14}, {14, 16, 14, 15}, {14, 14, 13}, {14, 14, 15}, {5, 6, 5}, {5, 7, 5, 6}, {35, 0, 35},
            {35, 1, 35, 0}, {35, 35, 0}, {34, 35, 34}, {34, 0, 34, 35}, {35, 3, 35, 0, 1, 2}, {32, 0, 32, 33, 34, 35},
            {0, 0, 35}, {0, 1, 0}, {0, 4, 3, 2, 1, 0},
        };
        for (int[] each : layings) {
            FiveStones x = Made.fresh();
            for (int k = 0; k < 4; k++) {
                x.stone(k, k + 2 < each.length ? each[k + 2] : 18 + k);
            }
            x.seed(seedFor(6, each[0] / 6, each[0] % 6));
            DUE.is("throwDown(2) to " + each[0], x.throwDown(2), 1);
            DUE.is("thrown to " + each[0] + ", " + (each.length - 2) + " taken", x.stoneAt(4), each[1]);
        }
    }

    /** throwDown(): "how many came to LIE", with none UP, some and all. */
    private static void noneAndAllThrown() {
        for (int n = 0; n <= 5; n++) {
            FiveStones x = Made.fresh();
            for (int k = 0; k < n; k++) {
                x.stone(k, 30 + k);
            }
            int seed = 1;
            for (int draw = 0; draw < 2 * (5 - n); draw++) {
                seed = seedOf(seed);
            }
            DUE.is("throwDown(1) with " + n + " that lie", x.throwDown(1), 5 - n);
            DUE.is("stones that lie", x.status(1), 31);
            DUE.is("the seed", x.status(5), seed);
            for (int k = 0; k < n; k++) {
                DUE.is("stone " + k + " stays", x.stoneAt(k), 30 + k);
            }
            DUE.is("throwDown(1) again", x.throwDown(1), 0);
            DUE.is("the seed again", x.status(5), seed);
        }
    }

    /** "THROWS with FORCE 1 what is UP, and goes on": a worn hand ends each round by its first toss. */
    private static void roundsFromWhatLies() {
        for (int n = 0; n <= 5; n++) {
            FiveStones x = Made.tired(970);
            x.hand(0, 0);
            for (int k = 0; k < n; k++) {
                x.stone(k, APART[k]);
            }
            int seed = 99;
            x.seed(seed);
            for (int draw = 0; draw < 2 * (5 - n) + 1; draw++) {
                seed = seedOf(seed);
            }
            DUE.is("plays(1) with " + n + " that lie", x.plays(1), 1);
            DUE.is("the seed", x.status(5), seed);
            DUE.is("whose turn", x.status(2), 1);
            DUE.is("all up", x.status(1), 0);
            DUE.is("tosses", x.handOf(0, 4), 971);
        }
    }

    /** plays(): "FAULTS of these", not those ahead; status(4) has all. */
    private static void faultsOfThese() {
        FiveStones x = Made.tired(970);
        int ahead = x.status(4);
        DUE.is("plays(1)", x.plays(1), 1);
        DUE.is("plays(20)", x.plays(20), 20);
        DUE.is("plays(20) again", x.plays(20), 20);
        DUE.is("status(4)", x.status(4), ahead + 41);
        FiveStones sure = Made.one(3, 9);
        int faults = 0;
        for (int t = 0; t < 20; t++) {
            faults += sure.plays(1);
        }
        FiveStones same = Made.one(3, 9);
        DUE.is("20 rounds, one by one", same.plays(20), faults);
        DUE.is("status(4)", same.status(4), faults);
        DUE.same("20 rounds, one by one", Due.picture(same), Due.picture(sure));
    }

    /** Five tosses a round at most: every round of a SMALL hand for one that has no fault. */
    private static void longestPlay() {
        for (int seed = 0; seed < 300; seed++) {
            FiveStones x = Made.one(1, 0);
            x.seed(seed);
            int faults = x.plays(1);
            boolean through = faults == 0;
            DUE.is("stage behind " + seed, x.handOf(0, 2), through ? 2 : 1);
            DUE.holds("tosses behind " + seed, through ? x.handOf(0, 4) == 5 : x.handOf(0, 4) <= 5);
            DUE.is("none lies behind " + seed, x.status(1), 0);
        }
    }

    /** "PLAYS go by PLAN of what LIES and the STAGE ahead of each toss", and end behind one that is through. */
    private static void stageAheadOfEachToss() {
        for (int stage = 1; stage <= 4; stage++) {
            for (int seed = 0; seed < 50; seed++) {
                FiveStones x = Made.one(3, 9);
                FiveStones y = Made.one(3, 9);
                x.stage(0, stage);
                y.stage(0, stage);
                x.seed(seed);
                y.seed(seed);
                y.throwDown(1);
                int faults = 0;
                for (int t = 0; t < 5 && y.status(1) != 0; t++) {
                    int set = y.plan(0, stage);
                    faults += 1 - y.toss(set, y.high(0, set, 0));
                }
                DUE.is("plays(1), stage " + stage + ", seed " + seed, x.plays(1), faults);
                DUE.same("plays(1), stage " + stage + ", seed " + seed, Due.picture(x), Due.picture(y));
            }
        }
    }

    /** seed(): "SEED becomes v: what it was (nothing is refused)"; "SEED (1 at first)". */
    private static void seeds() {
        FiveStones x = Made.fresh();
        int was = 1;
        for (int v : new int[] {0, -1, 1, Integer.MAX_VALUE, Integer.MIN_VALUE, -6, 77}) {
            DUE.is("seed(" + v + ")", x.seed(v), was);
            DUE.is("status(5)", x.status(5), v);
            was = v;
        }
        for (int what = 11; what <= 17; what++) {
            DUE.is("status(" + what + ")", x.status(what), 0);
        }
    }

    /** "An object is used for at most 512 calls": the last of them is answered as the first is. */
    private static void calls() {
        FiveStones x = Made.one(4, 9);
        FiveStones y = Made.fresh();
        int faults = 0;
        for (int call = 0; call < 500; call++) {
            faults += x.plays(20);
            DUE.is("restore() " + call, y.restore(), -6);
        }
        DUE.is("all faults", x.status(4), faults);
        DUE.is("all tosses", x.status(3), x.handOf(0, 4));
        DUE.is("slip", x.handOf(0, 5), 3 + x.handOf(0, 4) / 10);
        DUE.is("refusals", y.status(16), 500);
        for (int call = 501; call < 511; call++) {
            y.restore();
        }
        DUE.is("the 512th call", y.status(16), 510);
    }
}
