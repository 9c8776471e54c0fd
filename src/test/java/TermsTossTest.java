/** The edges that "A TOSS" and its details name, a method for each sentence. */
public final class TermsTossTest {
    private static final Due DUE = new Due("TermsTossTest");
    private static final String[] KINDS = {"HAND", "SMALL", "QUICK", "SURE", "TIRED", "LEFT", "COLD"};

    public static void main(String[] args) {
        wayOfNoneAndAll();
        timeOfKinds();
        timeBelowNone();
        slipOfKinds();
        most();
        oddsOfNoStones();
        wayAboveTime();
        farOneOnly();
        notThoseOfTheSet();
        severalCountOnce();
        noneAtLeast();
        high();
        highWithoutAny();
        DUE.end();
    }

    /** "WAY of a set of STONES that LIE: ... in whatever order" and way(): "0 of none". */
    private static void wayOfNoneAndAll() {
        DUE.is("way of none, none lies", Made.fresh().way(0), 0);
        DUE.is("way of none, all lie", Made.usual().way(0), 0);
        FiveStones x = Made.one(0, 0, 0, 5, 30, 35, 33);
        DUE.is("way of all corners and BASE", x.way(31), 20);
        DUE.is("way of two corners, not by numbers", x.way(1 | 4), 16);
        FiveStones y = Made.one(0, 0, 35, 30, 5, 0, 14);
        DUE.is("way of all, the worst order by numbers", y.way(31), 24);
        DUE.is("way of each once", y.way(1) + y.way(2) + y.way(4) + y.way(8), 4 + 6 + 14 + 16);
        DUE.is("way of one at BASE", Made.one(0, 0, 33).way(1), 0);
    }

    /** "TIME of a HAND: 4 times HEIGHT; QUICK (and SURE): a more; COLD: a less." WAY may be TIME, not above it. */
    private static void timeOfKinds() {
        for (int kind = 0; kind < 7; kind++) {
            for (int a = 0; a <= 9; a++) {
                int more = kind == 2 || kind == 3 ? a : kind == 6 ? -a : 0;
                for (int cell : new int[] {33, 27, 21, 15, 9, 3, 4, 0}) {
                    FiveStones x = Made.one(kind, a, cell);
                    int way = x.way(1);
                    for (int height = 1; height <= 9; height++) {
                        int odds = way > 4 * height + more ? 0 : 100 - x.handOf(0, 5) * height;
                        String of = KINDS[kind] + " " + a + ", height " + height + ", way " + way;
                        DUE.is("odds of " + of, x.odds(0, 1, height), odds);
                    }
                }
            }
        }
        DUE.is("QUICK 9 says its TIME at 5", timeSaid(2, 9), 29);
        DUE.is("QUICK 0 says its TIME at 5", timeSaid(2, 0), 20);
        DUE.is("SURE 9 says its TIME at 5", timeSaid(3, 9), 29);
        DUE.is("SURE 0 says its TIME at 5", timeSaid(3, 0), 20);
    }

    private static int timeSaid(int kind, int a) {
        FiveStones x = Made.one(kind, a);
        x.show(7, 0);
        return x.says(7, 2);
    }

    /** "TIME may be below 0": not even a STONE at BASE is picked then, and with TIME 0 it is. */
    private static void timeBelowNone() {
        DUE.is("COLD 9, height 1: -5", Made.one(6, 9, 33).odds(0, 1, 1), 0);
        DUE.is("COLD 9, height 2: -1", Made.one(6, 9, 33).odds(0, 1, 2), 0);
        DUE.is("COLD 9, height 3: 3", Made.one(6, 9, 33).odds(0, 1, 3), 91);
        DUE.is("COLD 8, height 2: 0", Made.one(6, 8, 33).odds(0, 1, 2), 94);
        DUE.is("COLD 8, height 1: -4", Made.one(6, 8, 33).odds(0, 1, 1), 0);
        DUE.is("COLD 5, height 1: -1", Made.one(6, 5, 33).odds(0, 1, 1), 0);
        DUE.is("COLD 4, height 1: 0", Made.one(6, 4, 33).odds(0, 1, 1), 97);
        DUE.is("COLD 4, height 1, off BASE", Made.one(6, 4, 32).odds(0, 1, 1), 0);
        DUE.is("COLD 9, no stones", Made.one(6, 9, 33).odds(0, 0, 1), 0);
    }

    /** "SLIP: 3; SURE: 2; TIRED: 3 and TOSSES by 10 (cut), COLD the same; LEFT: 5." */
    private static void slipOfKinds() {
        int[] fresh = {3, 3, 3, 2, 3, 5, 3};
        for (int kind = 0; kind < 7; kind++) {
            boolean tires = kind == 4 || kind == 6;
            FiveStones x = Made.one(kind, 9);
            int behind = 0;
            for (int tosses : new int[] {0, 1, 9, 10, 11, 19, 20, 99, 100, 109, 110}) {
                Made.tossTimes(x, tosses - behind);
                behind = tosses;
                int slip = fresh[kind] + (tires ? tosses / 10 : 0);
                DUE.is("SLIP of " + KINDS[kind] + " behind " + tosses, x.handOf(0, 5), slip);
            }
        }
    }

    /** "MOST: 4; SMALL (and LEFT): a modulo 3 and 1"; "it is of more than MOST". */
    private static void most() {
        for (int kind = 0; kind < 7; kind++) {
            for (int a = 0; a <= 9; a++) {
                FiveStones x = Made.one(kind, a, 33, 32, 34, 27, 26);
                int most = kind == 1 || kind == 5 ? a % 3 + 1 : 4;
                DUE.is("MOST of " + KINDS[kind] + " " + a, x.handOf(0, 6), most);
                for (int set = 1; set < 32; set++) {
                    boolean any = Integer.bitCount(set) <= most;
                    DUE.is(KINDS[kind] + " " + a + " picks " + set, x.odds(0, set, 9) > 0 ? 1 : 0, any ? 1 : 0);
                }
            }
        }
    }

    /** "ODDS ... 0, if it is empty". */
    private static void oddsOfNoStones() {
        for (int height = 1; height <= 9; height++) {
            DUE.is("odds of none, none lies", Made.one(3, 9).odds(0, 0, height), 0);
            DUE.is("odds of none, one lies", Made.one(3, 9, 33).odds(0, 0, height), 0);
        }
    }

    /** "0, if ... WAY is above TIME", of sets of several, too. */
    private static void wayAboveTime() {
        FiveStones x = Made.one(0, 0, 0, 5, 30, 35, 33);
        DUE.is("way of four", x.way(15), 20);
        DUE.is("height 4, time 16", x.odds(0, 15, 4), 0);
        DUE.is("height 5, time 20", x.odds(0, 15, 5), 85);
        FiveStones y = Made.one(6, 1, 0, 5, 30, 35, 33);
        DUE.is("COLD, height 5, time 19", y.odds(0, 15, 5), 0);
        DUE.is("COLD, height 6, time 23", y.odds(0, 15, 6), 82);
        FiveStones z = Made.one(2, 4, 0, 5, 30, 35, 33);
        DUE.is("QUICK, height 4, time 20", z.odds(0, 15, 4), 88);
        DUE.is("QUICK, height 3, time 16", z.odds(0, 15, 3), 0);
    }

    /** "less 6 for each STONE that ... is FAR 1 from one of it": not FAR 2, not the next number in the next row. */
    private static void farOneOnly() {
        int[][] layings = {
            {14, 13, 94}, {14, 15, 94}, {14, 8, 94}, {14, 20, 94}, {14, 7, 100}, {14, 9, 100}, {14, 19, 100},
            {14, 21, 100}, {14, 12, 100}, {14, 16, 100}, {14, 2, 100}, {14, 26, 100}, {5, 6, 100}, {6, 5, 100},
            {0, 35, 100}, {30, 0, 100}, {0, 5, 100}, {0, 1, 94}, {0, 6, 94}, {35, 34, 94}, {35, 29, 94},
        };
        for (int[] laying : layings) {
            FiveStones x = Made.one(0, 0, laying[0], laying[1]);
            DUE.is("odds of " + laying[0] + " beside " + laying[1], x.odds(0, 1, 9), laying[2] - 27);
        }
        FiveStones all = Made.one(0, 0, 14, 13, 15, 8, 20);
        DUE.is("odds of one among four", all.odds(0, 1, 9), 100 - 27 - 24);
    }

    /** "for each STONE that LIES, isn't of the set". */
    private static void notThoseOfTheSet() {
        FiveStones x = Made.one(0, 0, 27, 26, 28, 21);
        DUE.is("odds of one", x.odds(0, 1, 9), 100 - 27 - 18);
        DUE.is("odds with one of its neighbours", x.odds(0, 3, 9), 100 - 27 - 12);
        DUE.is("odds with all of them", x.odds(0, 15, 9), 100 - 27);
        x.stone(3, -1);
        DUE.is("odds once one is up", x.odds(0, 1, 9), 100 - 27 - 12);
    }

    /** "A STONE that is FAR 1 from several of a set counts once." */
    private static void severalCountOnce() {
        FiveStones x = Made.one(0, 0, 26, 28, 21, 33, 27);
        DUE.is("odds of one beside it", x.odds(0, 1, 9), 100 - 27 - 6);
        DUE.is("odds of two beside it", x.odds(0, 3, 9), 100 - 27 - 6);
        DUE.is("odds of all four beside it", x.odds(0, 15, 9), 100 - 27 - 6);
    }

    /** "0 at least": ODDS that come to 1, to 0 and below. */
    private static void noneAtLeast() {
        FiveStones one = Made.tired(300);
        Made.lay(one, 33);
        DUE.is("100 less 33 times 3", one.odds(0, 1, 3), 1);
        DUE.is("100 less 33 times 4", one.odds(0, 1, 4), 0);
        FiveStones none = Made.tired(170);
        Made.lay(none, 33);
        DUE.is("100 less 20 times 5", none.odds(0, 1, 5), 0);
        DUE.is("100 less 20 times 4", none.odds(0, 1, 4), 20);
        DUE.is("100 less 20 times 6", none.odds(0, 1, 6), 0);
        Made.lay(none, 33, 32, 34, 27);
        DUE.is("20 less 18", none.odds(0, 1, 4), 2);
        FiveStones touched = Made.tired(190);
        Made.lay(touched, 33, 32, 34);
        DUE.is("12 less 12", touched.odds(0, 1, 4), 0);
        touched.stone(2, -1);
        DUE.is("12 less 6", touched.odds(0, 1, 4), 6);
    }

    /** "HIGH: the HEIGHT with most ODDS, of several the least; BY HIGH: these ODDS." */
    private static void high() {
        int[][] cells = {{33, 1}, {21, 1}, {31, 1}, {20, 2}, {3, 3}, {4, 3}, {0, 4}};
        for (int[] cell : cells) {
            FiveStones x = Made.one(0, 0, cell[0]);
            DUE.is("high of " + cell[0], x.high(0, 1, 0), cell[1]);
            DUE.is("by high of " + cell[0], x.high(0, 1, 1), 100 - 3 * cell[1]);
        }
        FiveStones cold = Made.one(6, 9, 30, 0, 14, 5);
        DUE.is("the highest toss that is ever best", cold.high(0, 15, 0), 8);
        DUE.is("its odds", cold.high(0, 15, 1), 76);
        FiveStones last = Made.tired(300);
        Made.lay(last, 3);
        DUE.is("high with odds 1", last.high(0, 1, 0), 3);
        DUE.is("odds 1 by high", last.high(0, 1, 1), 1);
    }

    /** "HIGH is 1 with ODDS 0 if no HEIGHT has any, of an empty set, too." */
    private static void highWithoutAny() {
        noHeight("an empty set, none lies", Made.one(0, 0), 0);
        noHeight("an empty set, all lie", Made.usual(), 0);
        noHeight("five", Made.usual(), 31);
        noHeight("more than MOST", Made.one(1, 0, 33, 32), 3);
        FiveStones worn = Made.tired(310);
        Made.lay(worn, 3);
        noHeight("slip 34 three times", worn, 1);
        FiveStones none = Made.tired(970);
        Made.lay(none, 33);
        noHeight("slip 100", none, 1);
    }

    private static void noHeight(String of, FiveStones x, int set) {
        DUE.is("high of " + of, x.high(0, set, 0), 1);
        DUE.is("by high of " + of, x.high(0, set, 1), 0);
    }
}
