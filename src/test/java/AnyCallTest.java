import java.util.Random;

/** Any calls with any arguments in any state: none throws, and the same calls give the same answers. */
public final class AnyCallTest {
    private static final int[] EDGES = {
        -1, 0, 1, 2, 3, 4, 5, 6, 7, 8, 9, 10, 20, 21, 31, 32, 33, 35, 36, 100, 101, 160, 161, -2, 1000000,
        Integer.MAX_VALUE, Integer.MIN_VALUE,
    };

    public static void main(String[] args) {
        Due due = new Due("AnyCallTest");
        for (int run = 0; run < 1500; run++) {
            Random random = new Random(run);
            Random same = new Random(run);
            FiveStones x = new FiveStones();
            FiveStones y = new FiveStones();
            for (int call = 0; call < 512; call++) {
                long got = anyCall(x, random);
                if (got != anyCall(y, same)) {
                    due.is("run " + run + ", call " + call + " the same again", 0, 1);
                }
            }
            due.is("run " + run, x.status(0) >= 0 ? 1 : 0, 1);
        }
        due.end();
    }

    private static int any(Random random) {
        int most = random.nextInt(10) == 0 ? EDGES.length : 8;
        return EDGES[random.nextInt(most)];
    }

    private static long anyCall(FiveStones x, Random r) {
        switch (r.nextInt(44)) {
            case 0: return x.row(any(r), any(r), any(r));
            case 1: return x.set(any(r), any(r), any(r));
            case 2: return x.copy(any(r), any(r), any(r), any(r), any(r));
            case 3: return x.element(any(r), any(r));
            case 4: return x.show(any(r), any(r));
            case 5: return x.holds(any(r));
            case 6: return x.says(any(r), any(r));
            case 7: return x.hand(any(r), any(r));
            case 8: return x.handOf(any(r), any(r));
            case 9: return x.stone(any(r), any(r));
            case 10: return x.stoneAt(any(r));
            case 11: return x.stage(any(r), any(r));
            case 12: return x.turn(any(r));
            case 13: return x.game(any(r));
            case 14: return x.fault();
            case 15: return x.way(any(r));
            case 16: return x.odds(any(r), any(r), any(r));
            case 17: return x.high(any(r), any(r), any(r));
            case 18: return x.chance(any(r), any(r));
            case 19: return x.plan(any(r), any(r));
            case 20: return x.bestStage(any(r));
            case 21: return x.bestHand(any(r));
            case 22: return x.keep(any(r));
            case 23: return x.first(any(r), any(r), any(r));
            case 24: return x.turns(any(r), any(r));
            case 25: return x.alike();
            case 26: return x.lying(any(r));
            case 27: return x.judge(any(r), any(r), any(r));
            case 28: return x.told(any(r), any(r), any(r));
            case 29: return x.toss(any(r), any(r));
            case 30: return x.throwDown(any(r));
            case 31: return x.plays(any(r));
            case 32: return x.seed(any(r));
            case 33: return x.act(any(r), any(r), any(r));
            case 34: return x.trace(any(r));
            case 35: return x.image();
            case 36: return x.restore();
            case 37: return x.status(any(r));
            default: return x.stone(r.nextInt(5), r.nextInt(36));
        }
    }
}
