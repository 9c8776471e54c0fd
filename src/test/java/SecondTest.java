import java.util.Random;

/**
 * All promises in runs of any calls, 512 on each object: every answer is the one that the second form of the document
 * gives. Arguments are mostly such as may be, so that a run goes far; the others are the edges and wild ones.
 */
public final class SecondTest {
    private static final int RUNS = 300;
    private static final int CALLS = 512;
    private static final int[] WILD = {
        -2, -1, 0, 7, 8, 9, 10, 11, 21, 32, 36, 100, 101, 160, 161, 1000001, Integer.MAX_VALUE, Integer.MIN_VALUE,
    };
    private static final Due DUE = new Due("SecondTest");

    private final Random random;
    private final FiveStones x = new FiveStones();
    private final Second y = new Second();
    private final String run;
    private int calls = 0;
    private boolean same = true;

    private SecondTest(int seed) {
        random = new Random(seed);
        run = "run " + seed + ", call ";
    }

    public static void main(String[] args) {
        for (int seed = 0; seed < RUNS; seed++) {
            new SecondTest(seed).goThrough();
        }
        DUE.end();
    }

    /** Behind the first answer that differs the two have gone apart, and the rest of the run tells nothing. */
    private void goThrough() {
        if (random.nextInt(4) != 0) {
            hands(1 + random.nextInt(4));
        }
        while (same && calls < CALLS) {
            step();
        }
    }

    private void due(String call, long got, long want) {
        // what later calls answer is free
        if (calls < CALLS) {
            DUE.is(run + calls + ": " + call, got, want);
            same &= got == want;
        }
        calls++;
    }

    // ---- arguments

    /** From least to most, now and then one beside it, or a wild one. */
    private int of(int least, int most) {
        int dice = random.nextInt(40);
        if (dice == 0) {
            return WILD[random.nextInt(WILD.length)];
        }
        return dice == 1 ? least - 1 : dice == 2 ? most + 1 : least + random.nextInt(most - least + 1);
    }

    private int shelf() {
        return of(0, 7);
    }

    private int handNumber() {
        return of(0, Math.max(0, y.status(0) - 1));
    }

    /** A set of stones that lie, mostly. */
    private int stones() {
        return random.nextInt(12) == 0 ? of(0, 31) : random.nextInt(32) & y.status(1);
    }

    private int any() {
        return random.nextBoolean() ? random.nextInt() : of(-3, 30);
    }

    /** A shelf whose row this call has just filled, so that what it asks for comes to a row. */
    private int filled(int sort, int... values) {
        int s = random.nextInt(8);
        row(s, sort, values.length);
        for (int i = 0; i < values.length; i++) {
            set(s, i, values[i] + (random.nextInt(9) == 0 ? 1L << 32 : 0));
        }
        return random.nextInt(10) == 0 ? shelf() : s;
    }

    // ---- steps, of one call or some

    private void hands(int n) {
        for (int h = 0; h < n; h++) {
            hand();
        }
    }

    private void step() {
        switch (random.nextInt(10)) {
            case 0: rowStep(); break;
            case 1: handStep(); break;
            case 2: stoneStep(); break;
            case 3: gameStep(); break;
            case 4: tossStep(); break;
            case 5: stageStep(); break;
            case 6: toldStep(); break;
            case 7: truthStep(); break;
            case 8: actStep(); break;
            default: imageStep(); break;
        }
    }

    private void rowStep() {
        switch (random.nextInt(6)) {
            case 0: row(shelf(), of(0, 3), random.nextInt(3) == 0 ? of(0, 160) : of(0, 9)); break;
            case 1: case 2: set(shelf(), of(0, 9), random.nextLong() >> random.nextInt(64)); break;
            case 3: case 4: copy(); break;
            default: element(shelf(), of(0, 9)); break;
        }
    }

    private void handStep() {
        int h = handNumber();
        int s = shelf();
        int v = of(0, 6);
        switch (random.nextInt(9)) {
            case 0: hand(); break;
            case 1: due("show(" + s + ", " + h + ")", x.show(s, h), y.show(s, h)); break;
            case 2: due("show(" + s + ", NONE)", x.show(s, -1), y.show(s, -1)); break;
            case 3: due("holds(" + s + ")", x.holds(s), y.holds(s)); break;
            case 4: case 5: says(); break;
            case 6: due("handOf(" + h + ", " + v + ")", x.handOf(h, v), y.handOf(h, v)); break;
            case 7: due("stage(" + h + ", " + v + ")", x.stage(h, v), y.stage(h, v)); break;
            default: due("turn(" + h + ")", x.turn(h), y.turn(h)); break;
        }
    }

    private void stoneStep() {
        int k = of(0, 4);
        int what = of(0, 2);
        switch (random.nextInt(6)) {
            case 0: case 1: case 2: stone(k, random.nextInt(6) == 0 ? -1 : of(0, 35)); break;
            case 3: due("stoneAt(" + k + ")", x.stoneAt(k), y.stoneAt(k)); break;
            case 4: due("alike()", x.alike(), y.alike()); break;
            default: due("lying(" + what + ")", x.lying(what), y.lying(what)); break;
        }
    }

    private void gameStep() {
        int s = random.nextInt(3) == 0 ? text() : shelf();
        due("game(" + s + ")", x.game(s), y.game(s));
        due("fault()", x.fault(), y.fault());
    }

    private void tossStep() {
        int h = handNumber();
        int set = stones();
        int height = of(1, 9);
        int what = of(0, 1);
        switch (random.nextInt(4)) {
            case 0: due("way(" + set + ")", x.way(set), y.way(set)); break;
            case 1: due("high(" + h + ", " + set + ", " + what + ")", x.high(h, set, what), y.high(h, set, what)); break;
            default: due("odds(" + h + ", " + set + ", " + height + ")", x.odds(h, set, height), y.odds(h, set, height));
        }
    }

    private void stageStep() {
        int h = handNumber();
        int k = of(1, 4);
        switch (random.nextInt(5)) {
            case 0: due("chance(" + h + ", " + k + ")", x.chance(h, k), y.chance(h, k)); break;
            case 1: due("plan(" + h + ", " + k + ")", x.plan(h, k), y.plan(h, k)); break;
            case 2: due("bestStage(" + h + ")", x.bestStage(h), y.bestStage(h)); break;
            case 3: due("bestHand(" + k + ")", x.bestHand(k), y.bestHand(k)); break;
            default: due("keep(" + h + ")", x.keep(h), y.keep(h)); break;
        }
    }

    private void toldStep() {
        int h = handNumber();
        if (random.nextBoolean()) {
            int s = filled(random.nextInt(4), of(0, 100), of(0, 100), of(0, 100), random.nextInt(30));
            int n = of(1, 100);
            int f = random.nextInt(5) == 0 ? of(0, 1000000) : random.nextInt(1000 << random.nextInt(10));
            due("first(" + s + ", " + h + ", " + n + ")", x.first(s, h, n), y.first(s, h, n));
            due("turns(" + s + ", " + f + ")", x.turns(s, f), y.turns(s, f));
        } else {
            int lie = y.status(1);
            int one = random.nextInt(32) & lie;
            int two = random.nextInt(32) & lie & ~one;
            int s = filled(1 + random.nextInt(3), 10 * one + of(1, 9), 10 * two + of(1, 9), 10 * stones() + of(1, 9));
            int n = of(0, 3);
            due("judge(" + h + ", " + s + ", " + n + ")", x.judge(h, s, n), y.judge(h, s, n));
            due("told(" + h + ", " + s + ", " + n + ")", x.told(h, s, n), y.told(h, s, n));
        }
    }

    private void truthStep() {
        int set = stones();
        int height = of(1, 9);
        int force = of(0, 2);
        int n = random.nextInt(3) == 0 ? of(1, 20) : 1 + random.nextInt(3);
        int v = any();
        switch (random.nextInt(8)) {
            case 0: case 1: case 2: due("toss(" + set + ", " + height + ")", x.toss(set, height), y.toss(set, height)); break;
            case 3: case 4: case 5: due("throwDown(" + force + ")", x.throwDown(force), y.throwDown(force)); break;
            case 6: due("plays(" + n + ")", x.plays(n), y.plays(n)); break;
            default: due("seed(" + v + ")", x.seed(v), y.seed(v)); break;
        }
    }

    private void actStep() {
        int h = handNumber();
        int act = of(0, 2);
        int with = any();
        int i = of(0, 9);
        due("act(" + h + ", " + act + ", " + with + ")", x.act(h, act, with), y.act(h, act, with));
        due("trace(" + i + ")", x.trace(i), y.trace(i));
    }

    private void imageStep() {
        int what = random.nextBoolean() ? of(0, 6) : of(11, 17);
        switch (random.nextInt(12)) {
            case 0: due("image()", x.image(), y.image()); break;
            case 1: due("restore()", x.restore(), y.restore()); break;
            default: due("status(" + what + ")", x.status(what), y.status(what)); break;
        }
    }

    // ---- calls that several steps make

    private void row(int s, int sort, int n) {
        due("row(" + s + ", " + sort + ", " + n + ")", x.row(s, sort, n), y.row(s, sort, n));
    }

    private void set(int s, int i, long v) {
        due("set(" + s + ", " + i + ", " + v + ")", x.set(s, i, v), y.set(s, i, v));
    }

    private void element(int s, int i) {
        due("element(" + s + ", " + i + ")", x.element(s, i), y.element(s, i));
    }

    private void copy() {
        int p = shelf();
        int q = random.nextInt(3) == 0 ? p : shelf();
        int i = of(0, 3);
        int j = of(0, 3);
        int n = of(0, 5);
        String call = "copy(" + p + ", " + q + ", " + i + ", " + j + ", " + n + ")";
        due(call, x.copy(p, q, i, j, n), y.copy(p, q, i, j, n));
        element(q, of(0, 9));
        element(q, of(0, 9));
    }

    private void hand() {
        int kind = of(0, 6);
        int a = of(0, 9);
        due("hand(" + kind + ", " + a + ")", x.hand(kind, a), y.hand(kind, a));
    }

    private void says() {
        int s = shelf();
        int kind = of(0, 6);
        due("says(" + s + ", " + kind + ")", x.says(s, kind), y.says(s, kind));
    }

    private void stone(int k, int cell) {
        due("stone(" + k + ", " + cell + ")", x.stone(k, cell), y.stone(k, cell));
    }

    // ---- texts

    private int text() {
        StringBuilder text = new StringBuilder(item());
        for (int more = random.nextInt(4); more > 0; more--) {
            text.append(';').append(item());
        }
        String signs = "0123456789 ;handstoneupturgx";
        if (random.nextInt(4) == 0) {
            text.setCharAt(random.nextInt(text.length()), signs.charAt(random.nextInt(signs.length())));
        }
        if (random.nextInt(5) == 0) {
            text.setLength(random.nextInt(text.length() + 1));
        }
        return filled(random.nextInt(4), text.chars().toArray());
    }

    private String item() {
        switch (random.nextInt(6)) {
            case 0: return "hand " + digits(6) + " " + digits(9);
            case 1: return "up " + digits(4);
            case 2: return "stage " + digits(Math.max(0, y.status(0) - 1)) + " " + digits(4);
            case 3: return "turn " + digits(Math.max(0, y.status(0) - 1));
            default: return "stone " + digits(4) + " " + digits(35);
        }
    }

    private String digits(int most) {
        int v = random.nextInt(25) == 0 ? random.nextInt(130) : random.nextInt(most + 1);
        return (random.nextInt(8) == 0 ? "0" : "") + v;
    }
}
