import java.util.List;

/** The edges that SHELVES, ROWS, ACTS, THE IMAGE and status name, a method for each sentence. */
public final class TermsShelfTest {
    private static final Due DUE = new Due("TermsShelfTest");

    public static void main(String[] args) {
        nothingAtFirst();
        rowsOfNoneAndAll();
        zeroAtFirst();
        lowestBits();
        copiesOfAll();
        copiesAsTheyWere();
        elementsThatAreNot();
        shownOverRows();
        saysOfKinds();
        actsThatWrap();
        traceOfNoneAndAll();
        noTraceThen();
        imageOfNoneAndAll();
        allButShelves();
        shelvesBehindRestore();
        imagesOverImages();
        statusOfAll();
        DUE.end();
    }

    /** "SHELVES 0 to 7 hold NOTHING (at first)". */
    private static void nothingAtFirst() {
        FiveStones x = Made.fresh();
        for (int s = 0; s < 8; s++) {
            DUE.is("holds(" + s + ")", x.holds(s), -1);
            DUE.is("element(" + s + ", 0)", x.element(s, 0), 0);
            DUE.is("set(" + s + ", 0, 1)", x.set(s, 0, 1), -3);
        }
        for (int s : new int[] {-1, 8, Integer.MIN_VALUE, Integer.MAX_VALUE}) {
            DUE.is("holds(" + s + ")", x.holds(s), -1);
        }
        DUE.is("NOBODY", x.status(11), 0);
    }

    /** "A ROW has a SORT (0 bytes, 1 shorts, 2 ints, 3 longs) and 0 to 160 elements". */
    private static void rowsOfNoneAndAll() {
        for (int sort = 0; sort < 4; sort++) {
            FiveStones x = Made.fresh();
            DUE.is("row of none", x.row(7, sort, 0), 1);
            DUE.is("holds(7)", x.holds(7), 100 + sort);
            DUE.is("set(7, 0, 1)", x.set(7, 0, 1), -5);
            DUE.is("element(7, 0)", x.element(7, 0), 0);
            DUE.is("row of all", x.row(7, sort, 160), 1);
            for (int i = 0; i < 160; i++) {
                DUE.is("set(7, " + i + ")", x.set(7, i, i - 80), 1);
            }
            for (int i = 0; i < 160; i++) {
                DUE.is("element(7, " + i + ")", x.element(7, i), i - 80);
            }
            DUE.is("set(7, 160, 1)", x.set(7, 160, 1), -5);
            DUE.is("element(7, 160)", x.element(7, 160), 0);
            DUE.is("set(7, -1, 1)", x.set(7, -1, 1), -5);
            DUE.is("element(7, -1)", x.element(7, -1), 0);
        }
    }

    /** "0 at first", also where an earlier ROW had something. */
    private static void zeroAtFirst() {
        FiveStones x = Made.fresh();
        x.row(3, 3, 160);
        x.set(3, 0, 5);
        x.set(3, 1, 6);
        x.set(3, 159, 7);
        DUE.is("a shorter row", x.row(3, 3, 1), 1);
        DUE.is("its element", x.element(3, 0), 0);
        DUE.is("none behind it", x.element(3, 1), 0);
        DUE.is("a full row", x.row(3, 2, 160), 1);
        for (int i = 0; i < 160; i++) {
            DUE.is("element(3, " + i + ")", x.element(3, i), 0);
        }
        x.set(3, 0, 9);
        x.show(3, -1);
        x.row(3, 2, 1);
        DUE.is("behind NOTHING", x.element(3, 0), 0);
    }

    /** "what is put in keeps its lowest bits". */
    private static void lowestBits() {
        long[][] bytes = {{127, 127}, {128, -128}, {-128, -128}, {-129, 127}, {255, -1}, {256, 0}, {-256, 0}};
        long[][] shorts = {{32767, 32767}, {32768, -32768}, {-32768, -32768}, {-32769, 32767}, {65535, -1}, {65536, 0}};
        long[][] ints = {
            {2147483647L, 2147483647L}, {2147483648L, -2147483648L}, {-2147483648L, -2147483648L},
            {-2147483649L, 2147483647L}, {4294967295L, -1}, {4294967296L, 0},
        };
        long[][] longs = {{Long.MAX_VALUE, Long.MAX_VALUE}, {Long.MIN_VALUE, Long.MIN_VALUE}, {4294967296L, 4294967296L}};
        kept(0, bytes);
        kept(1, shorts);
        kept(2, ints);
        kept(3, longs);
        for (int sort = 0; sort < 4; sort++) {
            kept(sort, new long[][] {{0, 0}, {1, 1}, {-1, -1}, {127, 127}, {-128, -128}});
        }
    }

    private static void kept(int sort, long[][] values) {
        FiveStones x = Made.fresh();
        x.row(0, sort, 3);
        for (long[] each : values) {
            DUE.is("set(0, 1, " + each[0] + ")", x.set(0, 1, each[0]), 1);
            DUE.is(each[0] + " kept by sort " + sort, x.element(0, 1), each[1]);
            DUE.is("the one ahead", x.element(0, 0), 0);
            DUE.is("the one behind", x.element(0, 2), 0);
        }
    }

    private static FiveStones counted(int sort, int n) {
        FiveStones x = Made.fresh();
        x.row(0, sort, n);
        for (int i = 0; i < n; i++) {
            x.set(0, i, i + 1);
        }
        return x;
    }

    /** copy() of none and of all 160, to another ROW, and that in it stays. */
    private static void copiesOfAll() {
        FiveStones x = counted(1, 160);
        x.row(1, 1, 160);
        DUE.is("copy of none from the end", x.copy(0, 1, 160, 160, 0), 1);
        DUE.is("copy of none", x.copy(0, 1, 0, 0, 0), 1);
        DUE.is("nothing came", x.element(1, 0), 0);
        DUE.is("copy of all", x.copy(0, 1, 0, 0, 160), 1);
        for (int i = 0; i < 160; i++) {
            DUE.is("element(1, " + i + ")", x.element(1, i), i + 1);
        }
        FiveStones y = counted(0, 100);
        y.row(1, 0, 3);
        DUE.is("copy of the last to the last", y.copy(0, 1, 99, 2, 1), 1);
        long[] want = {0, 0, 100};
        for (int i = 0; i < 3; i++) {
            DUE.is("element(1, " + i + ")", y.element(1, i), want[i]);
        }
        y.row(2, 0, 0);
        y.row(3, 0, 0);
        DUE.is("copy of none to none", y.copy(2, 3, 0, 0, 0), 1);
        DUE.is("copy of none to itself", y.copy(2, 2, 0, 0, 0), 1);
        DUE.is("copy of one to none", y.copy(0, 3, 0, 0, 1), -5);
        DUE.is("copy of one from none", y.copy(3, 0, 0, 0, 1), -5);
    }

    /** copy(): "(as they were ahead)": within one ROW, up and down. */
    private static void copiesAsTheyWere() {
        int[][] copies = {{0, 1, 159}, {1, 0, 159}, {0, 80, 80}, {80, 0, 80}, {0, 2, 100}, {2, 0, 100}, {0, 0, 160}};
        for (int[] c : copies) {
            FiveStones x = counted(2, 160);
            DUE.is("copy(0, 0, " + c[0] + ", " + c[1] + ", " + c[2] + ")", x.copy(0, 0, c[0], c[1], c[2]), 1);
            for (int i = 0; i < 160; i++) {
                boolean came = i >= c[1] && i < c[1] + c[2];
                DUE.is("element(0, " + i + ")", x.element(0, i), came ? i - c[1] + c[0] + 1 : i + 1);
            }
        }
    }

    /** element(): "0 if there is none (nothing is refused)". */
    private static void elementsThatAreNot() {
        int[][] not = {{6, 160}, {6, -1}, {2, 0}, {7, 0}, {8, 0}, {-1, 0}, {4, 0}};
        for (int[] each : not) {
            DUE.asks(Made::busy, "element(" + each[0] + ", " + each[1] + ")", x -> x.element(each[0], each[1]), 0);
        }
        DUE.asks(Made::busy, "the last element", x -> x.element(6, 159), -5);
        FiveStones x = counted(3, 2);
        x.hand(0, 0);
        x.show(0, 0);
        DUE.is("of a row that a hand took the place of", x.element(0, 0), 0);
    }

    /** show(): "SHELF s holds a HAND, or NOTHING (hand NONE): 1, 0", whatever it held. */
    private static void shownOverRows() {
        for (int s = 0; s < 8; s++) {
            FiveStones x = Made.full();
            x.row(s, 3, 160);
            for (int hand = 3; hand >= 0; hand--) {
                DUE.is("show(" + s + ", " + hand + ")", x.show(s, hand), 1);
                DUE.is("holds(" + s + ")", x.holds(s), hand);
            }
            DUE.is("set over a hand", x.set(s, 0, 1), -2);
            DUE.is("show(" + s + ", NONE)", x.show(s, FiveStones.NONE), 0);
            DUE.is("holds(" + s + ")", x.holds(s), -1);
            DUE.is("show(" + s + ", NONE) again", x.show(s, FiveStones.NONE), 0);
            DUE.is("says of nothing", x.says(s, 0), -3);
            DUE.is("row over nothing", x.row(s, 0, 1), 1);
            DUE.is("show(" + s + ", 4)", x.show(s, 4), -1);
            DUE.is("holds(" + s + ") still", x.holds(s), 100);
            DUE.is("show(" + s + ", NONE) of a row", x.show(s, FiveStones.NONE), 0);
            DUE.is("holds(" + s + ")", x.holds(s), -1);
        }
    }

    /** says(): a KIND, "or one under it"; "says() of SMALL tells its own MOST": its a tells it, also of a LEFT one. */
    private static void saysOfKinds() {
        int[] above = {-1, 0, 0, 2, 0, 1, 4};
        for (int kind = 0; kind < 7; kind++) {
            for (int a : new int[] {0, 2, 3, 9}) {
                FiveStones x = Made.one(kind, a);
                x.show(7, 0);
                int[] want = {0, a % 3 + 1, 20 + a, 2, 3, 5, a};
                for (int as = 0; as < 7; as++) {
                    boolean of = as == kind || as == above[kind] || as == 0;
                    DUE.is("kind " + kind + " " + a + " as " + as, x.says(7, as), of ? want[as] : -2);
                }
            }
        }
        FiveStones cold = Made.one(6, 9);
        cold.show(0, 0);
        Made.tossTimes(cold, 10);
        int[] want = {10, -2, -2, -2, 4, -2, 9};
        for (int as = 0; as < 7; as++) {
            DUE.is("a COLD one behind ten tosses as " + as, cold.says(0, as), want[as]);
        }
    }

    /** "ACTS of HANDS, with x (wrapping)". */
    private static void actsThatWrap() {
        FiveStones x = Made.fresh();
        x.hand(0, 9);
        x.hand(0, 9);
        x.hand(3, 9);
        x.hand(1, 9);
        int max = Integer.MAX_VALUE;
        int min = Integer.MIN_VALUE;
        DUE.is("throws behind the greatest", x.act(1, 0, max), min);
        DUE.is("throws of 0 at the greatest", x.act(0, 0, max), max);
        DUE.is("picks twice the greatest", x.act(0, 1, max), -2);
        DUE.is("picks twice the least", x.act(0, 1, min), 0);
        DUE.is("catches below the least", x.act(0, 2, min), max - 8);
        DUE.is("SURE picks behind the greatest", x.act(2, 1, max), (min + 2) * 2 * 3);
        DUE.is("SMALL throws behind the greatest", x.act(3, 0, max), min + 2 + 9);
        FiveStones tired = Made.one(4, 9);
        DUE.is("TIRED catches the least", tired.act(0, 2, min), -(0 ^ (max - 8)));
        FiveStones cold = Made.one(6, 9);
        DUE.is("COLD throws twice the least", cold.act(0, 0, min), 0);
        DUE.is("COLD picks below the least", cold.act(0, 1, min), -36);
    }

    /** "THE TRACE: the numbers of the bodies ... in the order in which they began"; trace(): "NONE: none such". */
    private static void traceOfNoneAndAll() {
        FiveStones x = Made.one(6, 9);
        DUE.is("trace(0) ahead of any", x.trace(0), -1);
        DUE.is("status(6) ahead of any", x.status(6), 0);
        x.act(0, 2, 1);
        int[] most = {50, 12, 71, 11, 70, 51, 10, 70, 51, 10};
        DUE.is("status(6)", x.status(6), most.length);
        for (int i = 0; i < most.length; i++) {
            DUE.is("trace(" + i + ")", x.trace(i), most[i]);
        }
        for (int i : new int[] {-1, 10, 11, 19, 20, 21, Integer.MIN_VALUE, Integer.MAX_VALUE}) {
            DUE.is("trace(" + i + ")", x.trace(i), -1);
        }
        x.act(0, 0, 1);
        int[] fewer = {70, 51, 10, -1, -1};
        DUE.is("status(6) of the latest", x.status(6), 3);
        for (int i = 0; i < fewer.length; i++) {
            DUE.is("trace(" + i + ") of the latest", x.trace(i), fewer[i]);
        }
    }

    /** act(): "0, and no TRACE then: no such HAND, act." */
    private static void noTraceThen() {
        int[][] none = {{4, 0}, {-1, 0}, {3, 3}, {3, -1}, {4, 3}, {Integer.MAX_VALUE, 2}, {0, Integer.MIN_VALUE}};
        for (int[] each : none) {
            FiveStones x = Made.full();
            DUE.is("status(6) ahead", x.status(6) > 0 ? 1 : 0, 1);
            DUE.is("act(" + each[0] + ", " + each[1] + ", 7)", x.act(each[0], each[1], 7), 0);
            DUE.is("trace(0)", x.trace(0), -1);
            DUE.is("status(6)", x.status(6), 0);
            for (int r = 11; r <= 17; r++) {
                DUE.is("status(" + r + ")", x.status(r), 0);
            }
        }
        FiveStones x = Made.fresh();
        DUE.is("act without hands", x.act(0, 0, 7), 0);
    }

    /** image(), restore(): "how many HANDS", none to four, and as many ahead of the restore. */
    private static void imageOfNoneAndAll() {
        for (int n = 0; n <= 4; n++) {
            FiveStones x = Made.hands(n);
            List<Long> before = Due.picture(x);
            DUE.is("image() of " + n, x.image(), n);
            DUE.same("image() of " + n, Due.picture(x), before);
            for (int h = n; h < 4; h++) {
                x.hand(6, 9);
            }
            x.stage(3, 4);
            x.turn(3);
            x.stone(0, 0);
            x.plays(3);
            x.seed(5);
            DUE.is("restore() to " + n, x.restore(), n);
            DUE.same("restore() to " + n, Due.picture(x), before);
            DUE.is("status(2)", x.status(2), n - 1);
            DUE.is("handOf(" + n + ", 0)", x.handOf(n, 0), -5);
            DUE.is("the next hand's number", x.hand(6, 0), n == 4 ? -7 : n);
        }
    }

    /** "THE IMAGE of all but SHELVES (and THE IMAGE, REFUSALS, the FAULT, THE TRACE)". */
    private static void allButShelves() {
        FiveStones x = Made.usual();
        x.image();
        x.set(0, 0, 99);
        x.row(4, 3, 2);
        x.show(5, 1);
        x.stoneAt(5);
        Made.write(x, 7, "up");
        x.game(7);
        x.act(0, 1, 3);
        x.restore();
        DUE.is("a row's element", x.element(0, 0), 99);
        DUE.is("a new row", x.holds(4), 103);
        DUE.is("a hand's shelf", x.holds(5), 1);
        DUE.is("NOBODY", x.status(11), 1);
        DUE.is("WRONG", x.status(16), 1);
        DUE.is("the fault", x.fault(), 2);
        DUE.is("the trace", x.trace(0), 11);
        DUE.is("the trace's end", x.trace(2), -1);
        DUE.is("its bodies", x.status(6), 2);
    }

    /** restore(): "SHELVES with HANDS hold those of these numbers, or NOTHING". */
    private static void shelvesBehindRestore() {
        for (int n = 0; n <= 4; n++) {
            FiveStones x = Made.hands(n);
            x.image();
            for (int h = n; h < 4; h++) {
                x.hand(6, 9);
            }
            for (int s = 0; s < 4; s++) {
                x.show(s, s);
            }
            x.row(4, 1, 2);
            DUE.is("restore()", x.restore(), n);
            for (int s = 0; s < 4; s++) {
                DUE.is("holds(" + s + ") with " + n, x.holds(s), s < n ? s : -1);
                DUE.is("says(" + s + ", 0) with " + n, x.says(s, 0), s < n ? 0 : -3);
            }
            DUE.is("holds(4), a row", x.holds(4), 101);
            DUE.is("holds(5), nothing", x.holds(5), -1);
            x.hand(0, 0);
            DUE.is("a shelf stays empty", x.holds(3), n == 4 ? 3 : -1);
        }
    }

    /** The latest image is the one that is restored, as often as one likes; restore() -6: "there is none". */
    private static void imagesOverImages() {
        FiveStones x = Made.fresh();
        DUE.is("none", x.restore(), -6);
        DUE.is("none again", x.restore(), -6);
        DUE.is("status(16)", x.status(16), 2);
        x.image();
        x.hand(0, 0);
        x.stone(0, 5);
        x.image();
        x.stone(0, 6);
        for (int t = 0; t < 3; t++) {
            DUE.is("restore()", x.restore(), 1);
            DUE.is("stoneAt(0)", x.stoneAt(0), 5);
            x.stone(0, 7);
            x.plays(2);
        }
        DUE.is("status(16) still", x.status(16), 2);
    }

    /** status(): 0 to 6 and 11 to 17; "NONE for another what". */
    private static void statusOfAll() {
        FiveStones x = Made.busy();
        int[] want = {4, 11, 2, 2, 1, 77, 10};
        for (int what = 0; what <= 6; what++) {
            DUE.is("status(" + what + ")", x.status(what), want[what]);
        }
        int[] refusals = {0, 0, 0, 0, 1, 1, 0};
        for (int what = 11; what <= 17; what++) {
            DUE.is("status(" + what + ")", x.status(what), refusals[what - 11]);
        }
        int[] other = {-1, 7, 8, 9, 10, 18, 19, -6, -7, -11, Integer.MIN_VALUE, Integer.MIN_VALUE + 11, Integer.MAX_VALUE};
        for (int what : other) {
            DUE.asks(Made::busy, "status(" + what + ")", y -> y.status(what), -1);
        }
        FiveStones all = Made.one(0, 0, 0, 1, 2, 3, 4);
        DUE.is("status(1), all", all.status(1), 31);
        Made.lay(all);
        DUE.is("status(1), none", all.status(1), 0);
        all.stone(4, 35);
        DUE.is("status(1), the last", all.status(1), 16);
    }
}
