import java.util.List;

/** The edges that "THE GAME" names, a method for each sentence: floor, stones, hands, and games that are read. */
public final class TermsGameTest {
    private static final Due DUE = new Due("TermsGameTest");

    public static void main(String[] args) {
        cellsOfTheFloor();
        base();
        noneTwoInOne();
        upOrLying();
        atFirst();
        fourHandsAtMost();
        whoseTurnAtFirst();
        items();
        oneBlank();
        numbersOfEveryItem();
        digits();
        endsTooEarly();
        mayHaveLainElsewhere();
        overWhatThereIsOrNothing();
        noRoom();
        handsOfTheTextItself();
        handsBehindAnImage();
        latestThatCameToARow();
        DUE.end();
    }

    /** "The floor has CELLS 0 to 35: 6 times the row and the column": a row's end is far from the next one's start. */
    private static void cellsOfTheFloor() {
        int[][] pairs = {{0, 1, 1}, {0, 6, 1}, {5, 6, 6}, {29, 30, 6}, {29, 35, 1}, {0, 35, 10}, {5, 30, 10}, {0, 7, 2}};
        for (int[] pair : pairs) {
            FiveStones x = Made.one(0, 0, pair[0], pair[1]);
            DUE.is("FAR of " + pair[0] + " and " + pair[1], x.lying(0), pair[2]);
            DUE.is("NEAR of " + pair[0] + " and " + pair[1], x.lying(1), pair[2] == 1 ? 1 : 0);
        }
        for (int cell = 0; cell < 36; cell++) {
            FiveStones x = Made.fresh();
            DUE.is("stone(4, " + cell + ")", x.stone(4, cell), -1);
            DUE.is("stoneAt(4)", x.stoneAt(4), cell);
        }
    }

    /** "BASE, where all is tossed and caught, is CELL 33." */
    private static void base() {
        int[][] ways = {{33, 0}, {32, 2}, {34, 2}, {27, 2}, {35, 4}, {30, 6}, {0, 16}, {5, 14}, {3, 10}};
        for (int[] way : ways) {
            DUE.is("WAY of " + way[0], Made.one(0, 0, way[0]).way(1), way[1]);
        }
    }

    /** "each LIES in a CELL, none two in one": not even for one that LIES or is UP now. */
    private static void noneTwoInOne() {
        for (int k = 0; k < 5; k++) {
            for (int other = 0; other < 5; other++) {
                FiveStones x = Made.fresh();
                x.stone(k, 35);
                DUE.is("stone " + other + " over " + k, x.stone(other, 35), k == other ? 35 : -16);
                x.stone(other, k == other ? 35 : 0);
                DUE.is("stone " + other + ", lying, over " + k, x.stone(other, 35), k == other ? 35 : -16);
                DUE.is("where " + other + " lies", x.stoneAt(other), k == other ? 35 : 0);
                x.stone(k, -1);
                DUE.is("stone " + other + " once it is free", x.stone(other, 35), k == other ? -1 : 0);
            }
        }
    }

    /** "or is UP in a hand": a stone that LAY is UP by NONE, and again. */
    private static void upOrLying() {
        FiveStones x = Made.fresh();
        DUE.is("a stone that is up", x.stone(4, -1), -1);
        DUE.is("to the first cell", x.stone(4, 0), -1);
        DUE.is("to the last cell", x.stone(4, 35), 0);
        DUE.is("where it lies", x.stone(4, 35), 35);
        DUE.is("up", x.stone(4, -1), 35);
        DUE.is("up again", x.stone(4, -1), -1);
        DUE.is("status(1)", x.status(1), 0);
        DUE.is("status(11)", x.status(11) + x.status(16), 0);
    }

    /** "UP in a hand (at first, all)"; "STAGE (1 to 4; 1 at first), ROUNDS (0 at first), TOSSES (0 at first)". */
    private static void atFirst() {
        FiveStones x = Made.fresh();
        DUE.is("stones that lie", x.status(1), 0);
        DUE.is("hands", x.status(0), 0);
        for (int h = 0; h < 4; h++) {
            x.hand(h, 9);
            DUE.is("stage of " + h, x.handOf(h, 2), 1);
            DUE.is("rounds of " + h, x.handOf(h, 3), 0);
            DUE.is("tosses of " + h, x.handOf(h, 4), 0);
        }
    }

    /** "HANDS have numbers, from 0 on, 4 at most". */
    private static void fourHandsAtMost() {
        FiveStones x = Made.fresh();
        for (int h = 0; h < 4; h++) {
            DUE.is("hand " + h, x.hand(6 - h, h), h);
        }
        DUE.is("a fifth", x.hand(0, 0), -7);
        DUE.is("and again", x.hand(6, 9), -7);
        DUE.is("status(0)", x.status(0), 4);
        DUE.is("status(17)", x.status(17), 2);
    }

    /** "WHOSE turn: a HAND (0 at first, if there is one)." */
    private static void whoseTurnAtFirst() {
        FiveStones x = Made.fresh();
        DUE.is("status(2) without hands", x.status(2), -1);
        x.hand(0, 0);
        DUE.is("status(2) with one", x.status(2), 0);
        x.hand(0, 0);
        DUE.is("status(2) with two", x.status(2), 0);
        DUE.is("turn(1)", x.turn(1), 0);
        x.hand(0, 0);
        DUE.is("status(2) with a third", x.status(2), 1);
        FiveStones y = Made.fresh();
        game(y, "hand 0 0;hand 1 1", 2, -1);
        DUE.is("status(2) by a text", y.status(2), 0);
    }

    /** "ITEM, then any number of times ; and ITEM": one, and as many as 160 letters hold. */
    private static void items() {
        game(Made.fresh(), "up 0", 1, -1);
        String many = "up 0" + ";up 1".repeat(31);
        game(Made.fresh(), many, 32, -1);
        game(Made.fresh(), many + "0", -6, 158);
        game(Made.fresh(), "up 0" + ";up 1".repeat(30) + ";up 01", 32, -1);
        game(Made.fresh(), many + ";", -6, 160);
        game(Made.fresh(), "up 00" + ";up 1".repeat(31), 32, -1);
        game(Made.fresh(), "up 00" + ";up 1".repeat(30) + ";up 5", -6, 159);
        game(Made.fresh(), "up 0;", -6, 5);
        game(Made.fresh(), ";up 0", -6, 0);
        game(Made.fresh(), "up 0;;up 0", -6, 5);
        game(Made.fresh(), "up 0 ;up 0", -6, 4);
        game(Made.fresh(), "up 0; up 0", -6, 5);
        game(Made.fresh(), "up 0,up 0", -6, 4);
        game(Made.fresh(), "", -6, 0);
    }

    /** "One blank between words and NUMBERS". */
    private static void oneBlank() {
        game(Made.usual(), "hand 0 0", 1, -1);
        game(Made.usual(), "hand  0 0", -6, 5);
        game(Made.usual(), "hand 0  0", -6, 7);
        game(Made.usual(), "hand0 0", -6, 4);
        game(Made.usual(), "hand 0,0", -6, 6);
        game(Made.usual(), " hand 0 0", -6, 0);
        game(Made.usual(), "hand 0 0 ", -6, 8);
        game(Made.usual(), "up0", -6, 2);
        game(Made.usual(), "up 0 0", -6, 4);
        game(Made.usual(), "turn 0 0", -6, 6);
        game(Made.usual(), "stage 0 1 1", -6, 9);
    }

    /** Every number of one or two digits in every place; usual() has hands 0 to 2, and 26, 20, 34, 14 are taken. */
    private static void numbersOfEveryItem() {
        for (int v = 0; v <= 99; v++) {
            boolean taken = v == 26 || v == 20 || v == 34 || v == 14;
            for (String digits : new String[] {"" + v, v < 10 ? "0" + v : "" + v}) {
                number("hand ", digits, " 0", v <= 6);
                number("hand 0 ", digits, "", v <= 9);
                number("stone ", digits, " 1", v <= 4);
                number("stone 0 ", digits, "", v <= 35 && !taken);
                number("up ", digits, "", v <= 4);
                number("stage ", digits, " 4", v <= 2);
                number("stage 0 ", digits, "", v >= 1 && v <= 4);
                number("turn ", digits, "", v <= 2);
            }
        }
    }

    /** "of a NUMBER that may not be the place of its first digit", and whatever goes on behind it. */
    private static void number(String ahead, String digits, String behind, boolean may) {
        int place = may ? -1 : ahead.length();
        game(Made.usual(), ahead + digits + behind, may ? 1 : -6, place);
        game(Made.usual(), "turn 0;" + ahead + digits + behind + ";turn 1", may ? 3 : -6, may ? -1 : 7 + place);
    }

    /** "NUMBERS (1 or 2 digits)": none and three. */
    private static void digits() {
        game(Made.usual(), "up ;up 0", -6, 3);
        game(Made.usual(), "hand  0", -6, 5);
        game(Made.usual(), "hand 0 ;up 0", -6, 7);
        game(Made.usual(), "up 000", -6, 5);
        game(Made.usual(), "up 004;up 9", -6, 5);
        game(Made.usual(), "stone 0 000", -6, 10);
        game(Made.usual(), "stone 000 0", -6, 8);
        game(Made.usual(), "stone 0 360", -6, 8);
        game(Made.usual(), "stone 0 -1", -6, 8);
        game(Made.usual(), "stone 0 +1", -6, 8);
        game(Made.usual(), "stone 0 /", -6, 8);
        game(Made.usual(), "stone 0 :", -6, 8);
        game(Made.usual(), "stone 0 1/", -6, 9);
        game(Made.usual(), "stone 0 1:", -6, 9);
    }

    /** "the number of elements, if it ends too early": every beginning of a text that is none itself. */
    private static void endsTooEarly() {
        String text = "hand 6 09;stone 4 35;up 00;stage 3 4;turn 03";
        boolean[] whole = new boolean[text.length() + 1];
        for (int end : new int[] {8, 9, 19, 20, 25, 26, 36, 43, 44}) {
            whole[end] = true;
        }
        int items = 0;
        for (int end = 0; end <= text.length(); end++) {
            items += end == 8 || end == 19 || end == 25 || end == 36 || end == 43 ? 1 : 0;
            game(Made.usual(), text.substring(0, end), whole[end] ? items : -6, whole[end] ? -1 : end);
        }
    }

    /** "STONE S LIES in CELL X, where none does; it may have LAIN elsewhere"; "a CELL in which another one LIES: X". */
    private static void mayHaveLainElsewhere() {
        FiveStones x = Made.usual();
        game(x, "stone 0 35;stone 0 0;stone 0 1", 3, -1);
        DUE.is("where it lies at last", x.stoneAt(0), 1);
        game(Made.usual(), "stone 0 27", 1, -1);
        game(Made.usual(), "stone 0 26", -6, 8);
        game(Made.usual(), "up 1;stone 0 26", 2, -1);
        game(Made.usual(), "stone 1 1;stone 0 26", 2, -1);
        game(Made.usual(), "stone 0 1;stone 1 01", -6, 18);
        game(Made.usual(), "stone 0 1;stone 1 27;stone 0 26", 3, -1);
        game(Made.usual(), "stone 0 26;stone 1 27", -6, 8);
        game(Made.fresh(), "stone 0 0;stone 1 0", -6, 18);
    }

    /** "All is told over what there is, or nothing": what stands ahead of a fault is not told, either. */
    private static void overWhatThereIsOrNothing() {
        String[] ahead = {"hand 6 9", "stone 2 1", "up 1", "stage 0 3", "turn 0"};
        for (String item : ahead) {
            FiveStones x = Made.busy();
            Made.write(x, 5, item + ";up 5");
            List<Long> before = Due.picture(x);
            boolean noRoom = item.startsWith("hand");
            int place = noRoom ? 0 : item.length() + 4;
            DUE.is("game of '" + item + ";up 5'", x.game(5), -6);
            before.set(before.size() - 11, (long) place);
            DUE.same("'" + item + ";up 5' is told", Due.picture(x), before);
            FiveStones y = Made.usual();
            Made.write(y, 5, item + ";up 5");
            List<Long> early = Due.picture(y);
            DUE.is("game of '" + item + ";up 5', room there", y.game(5), -6);
            early.set(early.size() - 11, (long) item.length() + 4);
            DUE.same("'" + item + ";up 5' is told, room there", Due.picture(y), early);
        }
        FiveStones z = Made.busy();
        game(z, "turn 3", 1, -1);
        DUE.is("hands stay", z.status(0), 4);
        DUE.is("stones stay", z.status(1), 11);
        DUE.is("seed stays", z.status(5), 77);
        DUE.is("faults stay", z.status(4), 1);
        DUE.is("tosses stay", z.status(3), 2);
        DUE.is("rounds stay", z.handOf(0, 3), 1);
    }

    /** "what there is no room for can't stand: its word". */
    private static void noRoom() {
        String hand = "hand 0 0;";
        game(Made.fresh(), hand.repeat(3) + "hand 0 0", 4, -1);
        game(Made.fresh(), hand.repeat(4) + "hand 0 0", -6, 36);
        game(Made.fresh(), hand.repeat(4) + "hand 9 0", -6, 36);
        game(Made.fresh(), hand.repeat(4) + "up 0", 5, -1);
        game(Made.usual(), hand + "hand 0 0", -6, 9);
        game(Made.full(), "hand 0 0", -6, 0);
        game(Made.full(), "hand", -6, 0);
        game(Made.full(), "hand 7 0;", -6, 0);
        game(Made.full(), "up 0;hand 0 0", -6, 5);
        game(Made.full(), "up 5;hand 0 0", -6, 3);
        FiveStones x = Made.full();
        x.image();
        game(x, "hand 0 0", -6, 0);
        DUE.is("counted as -6, not -7", x.status(16) * 10 + x.status(17), 10);
    }

    /** Of HANDS that the text itself tells, those ahead are there already, those behind are not. */
    private static void handsOfTheTextItself() {
        game(Made.fresh(), "turn 0", -6, 5);
        game(Made.fresh(), "stage 0 1", -6, 6);
        game(Made.fresh(), "hand 0 0;turn 0;stage 0 4", 3, -1);
        game(Made.fresh(), "hand 0 0;turn 1", -6, 14);
        game(Made.fresh(), "turn 0;hand 0 0", -6, 5);
        FiveStones x = Made.fresh();
        game(x, "hand 6 9;hand 5 0;hand 0 5;hand 3 3;turn 3;stage 3 4", 6, -1);
        DUE.is("whose turn", x.status(2), 3);
        DUE.is("its stage", x.handOf(3, 2), 4);
        DUE.is("the stage of another", x.handOf(2, 2), 1);
    }

    /** A hand told where an image's end took another one's place begins anew. */
    private static void handsBehindAnImage() {
        FiveStones x = Made.one(0, 0);
        x.image();
        x.hand(4, 9);
        x.stage(1, 3);
        x.turn(1);
        Made.tossTimes(x, 12);
        x.restore();
        game(x, "hand 6 8", 1, -1);
        int[] want = {6, 8, 1, 0, 0, 3, 4};
        for (int what = 0; what <= 6; what++) {
            DUE.is("handOf(1, " + what + ")", x.handOf(1, what), want[what]);
        }
    }

    /** "The FAULT of the latest game() that came to a ROW; NONE: there was none, or none yet." */
    private static void latestThatCameToARow() {
        FiveStones x = Made.full();
        DUE.is("none yet", x.fault(), -1);
        x.game(7);
        DUE.is("none yet behind NOTHING", x.fault(), -1);
        game(x, "up 0;up", -6, 7);
        x.game(8);
        DUE.is("behind no such shelf", x.fault(), 7);
        x.game(2);
        DUE.is("behind a hand's shelf", x.fault(), 7);
        x.game(7);
        DUE.is("behind nothing", x.fault(), 7);
        DUE.is("game of no elements", x.game(4), -6);
        DUE.is("behind no elements", x.fault(), 0);
        game(x, "up 0", 1, -1);
        x.game(8);
        DUE.is("none of the latest", x.fault(), -1);
    }

    private static void game(FiveStones x, String text, int answer, int place) {
        Made.write(x, 5, text);
        DUE.is("game of '" + text + "'", x.game(5), answer);
        DUE.is("fault of '" + text + "'", x.fault(), place);
    }
}
