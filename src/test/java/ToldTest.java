import java.util.Random;

/** Promises 25, 26, 29 and 30: first, turns, judge, told. */
public final class ToldTest {
    private static final Due DUE = new Due("ToldTest");

    public static void main(String[] args) {
        chances();
        againstPlain();
        turnsTold();
        DUE.end();
    }

    private static FiveStones with(int... values) {
        FiveStones x = Made.usual();
        Made.ints(x, 5, values);
        return x;
    }

    private static void chances() {
        DUE.asks(Made::usual, "first(1, 1, 6)", x -> x.first(1, 1, 6), 272000);
        DUE.asks(Made::usual, "first(1, 0, 2)", x -> x.first(1, 0, 2), 0);
        DUE.asks(Made::usual, "turns(1, 500000)", x -> x.turns(1, 500000), 3);
        DUE.asks(Made::usual, "turns(1, 1000000)", x -> x.turns(1, 1000000), 0);
        DUE.asks(() -> with(0, 0, 0, 999), "elements beyond the hands", x -> x.first(5, 0, 1), 0);
        DUE.asks(() -> with(0, 0, 0), "turns that never end", x -> x.turns(5, 999999), -1);
        FiveStones x = Made.usual();
        x.row(5, 3, 3);
        x.set(5, 1, 0x700000000L + 50);
        DUE.is("longs as ints", x.first(5, 1, 1), 500000);
        FiveStones slow = Made.fresh();
        slow.hand(0, 0);
        slow.row(0, 0, 1);
        slow.set(0, 0, 1);
        int left = 1000000;
        for (int t = 0; t < 1000; t++) {
            DUE.is("turns(0, " + left + ")", slow.turns(0, left), t > 0 && left == 99 ? slow.turns(0, 99) : t);
            int next = left - left / 100;
            if (next == left) {
                break;
            }
            left = next;
            if (t % 400 == 399) {
                slow = Made.fresh();
                slow.hand(0, 0);
                slow.row(0, 0, 1);
                slow.set(0, 0, 1);
            }
        }
        DUE.is("turns that come to no fewer", slow.turns(0, left - 1), -1);
    }

    private static void againstPlain() {
        Random random = new Random(11);
        for (int run = 0; run < 300; run++) {
            FiveStones x = Made.fresh();
            int hands = 1 + random.nextInt(4);
            int[] chances = new int[hands];
            for (int h = 0; h < hands; h++) {
                x.hand(random.nextInt(7), random.nextInt(10));
                chances[h] = random.nextInt(3) == 0 ? random.nextInt(3) : random.nextInt(101);
            }
            Made.ints(x, 0, chances);
            int whose = random.nextInt(hands);
            x.turn(whose);
            int n = 1 + random.nextInt(100);
            int f = random.nextInt(random.nextBoolean() ? 1000001 : 200);
            long[] got = new long[hands];
            long left = 1000000;
            int turns = left <= f ? 0 : -1;
            for (int t = 0; t < 1000; t++) {
                int who = (whose + t) % hands;
                long through = left * chances[who] / 100;
                got[who] += t < n ? through : 0;
                left -= through;
                turns = turns < 0 && left <= f ? t + 1 : turns;
            }
            for (int h = 0; h < hands; h++) {
                DUE.is("first(0, " + h + ", " + n + ") in run " + run, x.first(0, h, n), got[h]);
            }
            DUE.is("turns(0, " + f + ") in run " + run, x.turns(0, f), turns);
        }
    }

    private static void turnsTold() {
        DUE.asks(() -> with(11, 22), "judge of a good turn", x -> x.judge(0, 5, 2), -1);
        DUE.asks(() -> with(11, 22), "told of a good turn", x -> x.told(0, 5, 2), 910000 * 88 / 100);
        DUE.asks(() -> with(new int[20]), "judge(0, 5, 20)", x -> x.judge(0, 5, 20), 0);
        DUE.refuses(() -> with(11, 11), "told twice the same", x -> x.told(0, 5, 2), -6, -6);
        DUE.asks(() -> with(11, 11), "judge twice the same", x -> x.judge(0, 5, 2), 1);
        DUE.asks(() -> with(11, 11), "told of the first only", x -> x.told(0, 5, 1), 910000);
        DUE.asks(() -> with(11), "judge of no tosses", x -> x.judge(0, 5, 0), -1);
        DUE.asks(() -> with(11), "told of no tosses", x -> x.told(0, 5, 0), 1000000);
        DUE.asks(() -> with(10), "judge of height 0", x -> x.judge(0, 5, 1), 0);
        DUE.asks(() -> with(5), "judge of no stones", x -> x.judge(0, 5, 1), 0);
        DUE.asks(() -> with(-11), "judge below 0", x -> x.judge(0, 5, 1), 0);
        DUE.asks(() -> with(-1), "judge below 0", x -> x.judge(0, 5, 1), 0);
        DUE.asks(() -> with(321), "judge of a stone that is not", x -> x.judge(0, 5, 1), 0);
        DUE.asks(() -> with(319), "judge of all five", x -> x.judge(0, 5, 1), 0);
        DUE.asks(() -> with(161), "judge of a stone too far", x -> x.judge(0, 5, 1), 0);
        DUE.asks(() -> with(162), "judge of a higher toss", x -> x.judge(0, 5, 1), -1);
        FiveStones x = Made.usual();
        x.row(5, 3, 1);
        x.set(5, 0, 0x700000000L + 11);
        DUE.is("longs as ints", x.judge(0, 5, 1), -1);
        FiveStones tired = Made.fresh();
        tired.hand(4, 0);
        Made.tossTimes(tired, 9);
        Made.lay(tired, 33, 0);
        Made.ints(tired, 5, 11, 24);
        DUE.is("tosses do not rise in thought", tired.told(0, 5, 2), 970000 * 88 / 100);
        againstPlainTurns();
    }

    private static void againstPlainTurns() {
        Random random = new Random(13);
        for (int run = 0; run < 500; run++) {
            int[] cells = ThoughtTest.randomCells(random);
            int kind = random.nextInt(7);
            int a = random.nextInt(10);
            FiveStones x = Made.fresh();
            x.hand(kind, a);
            for (int k = 0; k < 5; k++) {
                x.stone(k, cells[k]);
            }
            Plain plain = new Plain(cells, kind, a, 0);
            int n = random.nextInt(6);
            int[] tosses = new int[n];
            int lie = plain.lie();
            int chance = 1000000;
            int wrong = -1;
            for (int i = 0; i < n; i++) {
                int set = random.nextInt(8) == 0 ? random.nextInt(33) : lie & (1 << random.nextInt(5) | 1 << random.nextInt(5));
                int height = random.nextInt(8) == 0 ? random.nextInt(10) : 6 + random.nextInt(4);
                tosses[i] = 10 * set + height;
                int odds = height == 0 || (set & ~lie) != 0 ? 0 : plain.odds(set, lie, height);
                wrong = wrong < 0 && odds == 0 ? i : wrong;
                chance = chance * odds / 100;
                lie &= ~set;
            }
            Made.ints(x, 0, tosses);
            DUE.is("judge in run " + run, x.judge(0, 0, n), wrong);
            DUE.is("told in run " + run, x.told(0, 0, n), wrong < 0 ? chance : -6);
        }
    }
}
