import java.util.ArrayList;
import java.util.HashMap;
import java.util.LinkedHashMap;
import java.util.List;
import java.util.Map;
import java.util.TreeMap;

/**
 * The whole document once more, with the Java library: rows are Java's own arrays, hands are Java's own classes with
 * super calls, texts go by a list of steps, and all that is thought is thought anew for each call. SecondTest compares.
 */
final class Second {
    static final int NONE = -1;

    // ---- hands, by kinds, whose acts go the way that Java's own methods go

    static class Hand implements Cloneable {
        Second of;
        int kind;
        int m;
        int k;
        int stage = 1;
        int rounds = 0;
        int tosses = 0;

        int time(int height) {
            return 4 * height;
        }

        int slip() {
            return 3;
        }

        int most() {
            return 4;
        }

        int throwing(int x) {
            of.ran.add(10);
            return x + m;
        }

        int picking(int x) {
            of.ran.add(11);
            return throwing(x) * 2;
        }

        int catching(int x) {
            of.ran.add(12);
            int picked = picking(x);
            return picked ^ throwing(x - k);
        }

        Hand twin() {
            try {
                return (Hand) clone();
            } catch (CloneNotSupportedException never) {
                throw new IllegalStateException(never);
            }
        }
    }

    static class Small extends Hand {
        @Override int most() {
            return k % 3 + 1;
        }

        @Override int throwing(int x) {
            of.ran.add(20);
            return super.throwing(x) + k;
        }
    }

    static class Quick extends Hand {
        @Override int time(int height) {
            return super.time(height) + k;
        }

        @Override int picking(int x) {
            of.ran.add(30);
            return super.picking(x) * 3;
        }
    }

    static class Sure extends Quick {
        @Override int slip() {
            return 2;
        }

        @Override int picking(int x) {
            of.ran.add(40);
            return super.picking(x + 1);
        }
    }

    static class Tired extends Hand {
        @Override int slip() {
            return 3 + tosses / 10;
        }

        @Override int catching(int x) {
            of.ran.add(50);
            return -super.catching(x);
        }

        @Override int throwing(int x) {
            of.ran.add(51);
            return super.throwing(x) - m;
        }
    }

    static class Left extends Small {
        @Override int slip() {
            return 5;
        }

        @Override int catching(int x) {
            of.ran.add(60);
            return super.catching(x) ^ 5;
        }
    }

    static class Cold extends Tired {
        @Override int time(int height) {
            return super.time(height) - k;
        }

        @Override int throwing(int x) {
            of.ran.add(70);
            return super.throwing(x) * 2;
        }

        @Override int picking(int x) {
            of.ran.add(71);
            return super.picking(x - k);
        }
    }

    private static Hand handOfKind(int kind) {
        switch (kind) {
            case 0: return new Hand();
            case 1: return new Small();
            case 2: return new Quick();
            case 3: return new Sure();
            case 4: return new Tired();
            case 5: return new Left();
            default: return new Cold();
        }
    }

    private static Class<?> classOfKind(int kind) {
        return handOfKind(kind).getClass();
    }

    // ---- what an image has

    static final class State {
        List<Hand> hands = new ArrayList<>();
        TreeMap<Integer, Integer> lying = new TreeMap<>();
        int whose = 0;
        int faults = 0;
        int seed = 1;

        State twin() {
            State twin = new State();
            for (Hand hand : hands) {
                twin.hands.add(hand.twin());
            }
            twin.lying.putAll(lying);
            twin.whose = whose;
            twin.faults = faults;
            twin.seed = seed;
            return twin;
        }
    }

    private State now = new State();
    private State image = null;
    private List<Integer> ran = new ArrayList<>();
    private int latestFault = NONE;
    private final int[] refusals = new int[8];
    /** A shelf's key is there if it holds something: a byte[], short[], int[], long[], or a hand's number. */
    private final Map<Integer, Object> shelves = new HashMap<>();

    private int no(int number) {
        refusals[-number]++;
        return number;
    }

    private int noApart(int number) {
        return no(number) - 10;
    }

    private static boolean in(int v, int least, int most) {
        return least <= v && v <= most;
    }

    private boolean isHand(int h) {
        return in(h, 0, now.hands.size() - 1);
    }

    // ---- rows

    private static int lengthOf(Object row) {
        return java.lang.reflect.Array.getLength(row);
    }

    private static long valueAt(Object row, int i) {
        return java.lang.reflect.Array.getLong(row, i);
    }

    private boolean holdsRow(int s) {
        return shelves.containsKey(s) && !holdsHand(s);
    }

    private boolean holdsHand(int s) {
        return shelves.get(s) instanceof Integer;
    }

    private int intAt(int s, int i) {
        return (int) valueAt(shelves.get(s), i);
    }

    /** -1, -2 or -3 of a shelf where a row is wanted, else 0. */
    private int rowWanted(int s) {
        return !in(s, 0, 7) ? -1 : holdsHand(s) ? -2 : !shelves.containsKey(s) ? -3 : 0;
    }

    int row(int s, int sort, int n) {
        if (!in(s, 0, 7)) {
            return no(-1);
        }
        if (n < 0) {
            return no(-4);
        }
        if (!in(sort, 0, 3)) {
            return no(-6);
        }
        if (n > 160) {
            return no(-7);
        }
        shelves.put(s, sort == 0 ? new byte[n] : sort == 1 ? new short[n] : sort == 2 ? new int[n] : new long[n]);
        return 1;
    }

    int set(int s, int i, long v) {
        int why = rowWanted(s);
        if (why != 0) {
            return no(why);
        }
        Object row = shelves.get(s);
        if (!in(i, 0, lengthOf(row) - 1)) {
            return no(-5);
        }
        if (row instanceof byte[] bytes) {
            bytes[i] = (byte) v;
        } else if (row instanceof short[] shorts) {
            shorts[i] = (short) v;
        } else if (row instanceof int[] ints) {
            ints[i] = (int) v;
        } else {
            ((long[]) row)[i] = v;
        }
        return 1;
    }

    int copy(int p, int q, int i, int j, int n) {
        if (!in(p, 0, 7) || !in(q, 0, 7)) {
            return no(-1);
        }
        if (holdsHand(p) || holdsHand(q)) {
            return no(-2);
        }
        Object from = shelves.get(p);
        Object to = shelves.get(q);
        if (from != null && to != null && from.getClass() != to.getClass()) {
            return no(-2);
        }
        if (from == null || to == null) {
            return no(-3);
        }
        if (n < 0) {
            return no(-4);
        }
        if (i < 0 || j < 0 || n > lengthOf(from) || n > lengthOf(to) || i > lengthOf(from) - n || j > lengthOf(to) - n) {
            return no(-5);
        }
        List<Long> ahead = new ArrayList<>();
        for (int e = 0; e < n; e++) {
            ahead.add(valueAt(from, i + e));
        }
        for (int e = 0; e < n; e++) {
            set(q, j + e, ahead.get(e));
        }
        return 1;
    }

    long element(int s, int i) {
        return holdsRow(s) && in(i, 0, lengthOf(shelves.get(s)) - 1) ? valueAt(shelves.get(s), i) : 0;
    }

    int show(int s, int hand) {
        if (!in(s, 0, 7) || hand != NONE && !isHand(hand)) {
            return no(-1);
        }
        if (hand == NONE) {
            shelves.remove(s);
            return 0;
        }
        shelves.put(s, hand);
        return 1;
    }

    int holds(int s) {
        Object what = shelves.get(s);
        if (what == null) {
            return NONE;
        }
        return what instanceof Integer hand ? hand
                : what instanceof byte[] ? 100 : what instanceof short[] ? 101 : what instanceof int[] ? 102 : 103;
    }

    int says(int s, int kind) {
        if (!in(s, 0, 7) || !in(kind, 0, 6)) {
            return no(-1);
        }
        if (holdsRow(s)) {
            return no(-2);
        }
        if (!shelves.containsKey(s)) {
            return no(-3);
        }
        Hand hand = now.hands.get((Integer) shelves.get(s));
        if (!classOfKind(kind).isInstance(hand)) {
            return no(-2);
        }
        return kind == 0 ? hand.tosses : kind == 1 ? hand.most() : kind == 2 ? hand.time(5) : kind == 6 ? hand.k
                : hand.slip();
    }

    // ---- hands, stones, games

    int hand(int kind, int a) {
        if (!in(kind, 0, 6)) {
            return no(-1);
        }
        if (!in(a, 0, 9)) {
            return no(-6);
        }
        if (now.hands.size() == 4) {
            return no(-7);
        }
        return add(now, kind, a);
    }

    private int add(State state, int kind, int a) {
        Hand hand = handOfKind(kind);
        hand.of = this;
        hand.kind = kind;
        hand.m = state.hands.size();
        hand.k = a;
        state.hands.add(hand);
        return hand.m;
    }

    int handOf(int hand, int what) {
        if (!isHand(hand) || !in(what, 0, 6)) {
            return no(-5);
        }
        Hand one = now.hands.get(hand);
        return new int[] {one.kind, one.k, one.stage, one.rounds, one.tosses, one.slip(), one.most()}[what];
    }

    int stone(int stone, int cell) {
        if (!in(stone, 0, 4)) {
            return noApart(-1);
        }
        if (!in(cell, -1, 35) || cell >= 0 && anotherLies(now, stone, cell)) {
            return noApart(-6);
        }
        Integer lay = cell == NONE ? now.lying.remove(stone) : now.lying.put(stone, cell);
        return lay == null ? NONE : lay;
    }

    private static boolean anotherLies(State state, int stone, int cell) {
        return state.lying.containsValue(cell) && state.lying.getOrDefault(stone, NONE) != cell;
    }

    int stoneAt(int stone) {
        return in(stone, 0, 4) ? now.lying.getOrDefault(stone, NONE) : noApart(-1);
    }

    int stage(int hand, int v) {
        if (!isHand(hand)) {
            return no(-1);
        }
        if (!in(v, 1, 4)) {
            return no(-6);
        }
        int was = now.hands.get(hand).stage;
        now.hands.get(hand).stage = v;
        return was;
    }

    int turn(int hand) {
        if (!isHand(hand)) {
            return no(-1);
        }
        int was = now.whose;
        now.whose = hand;
        return was;
    }

    /** A fault of a text, told by its place. */
    private static final class Fault extends Exception {
        private static final long serialVersionUID = 1;
        final int place;

        Fault(int place) {
            super("fault at " + place, null, false, false);
            this.place = place;
        }
    }

    int game(int s) {
        int why = rowWanted(s);
        if (why != 0) {
            return no(why);
        }
        int[] signs = new int[lengthOf(shelves.get(s))];
        for (int i = 0; i < signs.length; i++) {
            signs[i] = intAt(s, i);
        }
        State draft = now.twin();
        try {
            int items = readAll(signs, draft);
            latestFault = NONE;
            now = draft;
            return items;
        } catch (Fault fault) {
            latestFault = fault.place;
            return no(-6);
        }
    }

    private int readAll(int[] signs, State draft) throws Fault {
        int at = readItem(signs, 0, draft);
        int items = 1;
        while (at < signs.length) {
            if (signs[at] != ';') {
                throw new Fault(at);
            }
            at = readItem(signs, at + 1, draft);
            items++;
        }
        return items;
    }

    /** Of the words that go on as the text does, sign by sign, one is left at its end. */
    private static String wordAt(int[] signs, int from) throws Fault {
        List<String> words = new ArrayList<>(List.of("hand", "stone", "up", "stage", "turn"));
        for (int length = 0;; length++) {
            int place = length;
            if (words.size() == 1 && words.get(0).length() == length) {
                return words.get(0);
            }
            if (from + length >= signs.length) {
                throw new Fault(signs.length);
            }
            words.removeIf(word -> place >= word.length() || word.charAt(place) != signs[from + place]);
            if (words.isEmpty()) {
                throw new Fault(from + length);
            }
        }
    }

    private int readItem(int[] signs, int from, State draft) throws Fault {
        String word = wordAt(signs, from);
        int hands = draft.hands.size();
        if (word.equals("hand") && hands == 4) {
            throw new Fault(from);
        }
        int at = from + word.length();
        int least = 0;
        int most = word.equals("hand") ? 6 : word.equals("stone") || word.equals("up") ? 4 : hands - 1;
        int[] one = number(signs, at, least, most);
        at = one[1];
        if (word.equals("up")) {
            draft.lying.remove(one[0]);
            return at;
        }
        if (word.equals("turn")) {
            draft.whose = one[0];
            return at;
        }
        int[] two = number(signs, at, word.equals("stage") ? 1 : 0,
                word.equals("hand") ? 9 : word.equals("stone") ? 35 : 4);
        if (word.equals("hand")) {
            add(draft, one[0], two[0]);
        } else if (word.equals("stage")) {
            draft.hands.get(one[0]).stage = two[0];
        } else if (anotherLies(draft, one[0], two[0])) {
            throw new Fault(at + 1);
        } else {
            draft.lying.put(one[0], two[0]);
        }
        return two[1];
    }

    /** A blank and a number from least to most: the number, and the place behind it. */
    private static int[] number(int[] signs, int blank, int least, int most) throws Fault {
        if (blank >= signs.length || signs[blank] != ' ') {
            throw new Fault(blank);
        }
        int first = blank + 1;
        if (first >= signs.length || !in(signs[first], '0', '9')) {
            throw new Fault(first);
        }
        int value = signs[first] - '0';
        int behind = first + 1;
        if (behind < signs.length && in(signs[behind], '0', '9')) {
            value = 10 * value + signs[behind] - '0';
            behind++;
        }
        if (!in(value, least, most)) {
            throw new Fault(first);
        }
        return new int[] {value, behind};
    }

    int fault() {
        return latestFault;
    }

    // ---- a toss

    private static int far(int p, int q) {
        return Math.abs(p / 6 - q / 6) + Math.abs(p % 6 - q % 6);
    }

    private static List<Integer> stonesOf(int set) {
        List<Integer> stones = new ArrayList<>();
        for (int k = 0; k < 5; k++) {
            if ((set & 1 << k) != 0) {
                stones.add(k);
            }
        }
        return stones;
    }

    private int lies() {
        int bits = 0;
        for (int k : now.lying.keySet()) {
            bits += 1 << k;
        }
        return bits;
    }

    private boolean allLie(int set) {
        return in(set, 0, 31) && now.lying.keySet().containsAll(stonesOf(set));
    }

    private int wayOf(int from, List<Integer> through) {
        if (through.isEmpty()) {
            return far(from, 33);
        }
        int least = Integer.MAX_VALUE;
        for (int k : through) {
            List<Integer> others = new ArrayList<>(through);
            others.remove((Integer) k);
            int cell = now.lying.get(k);
            least = Math.min(least, far(from, cell) + wayOf(cell, others));
        }
        return least;
    }

    /** Of stones that lie now, so that only those of lie lie then. */
    private int oddsOf(Hand hand, int set, int lie, int height) {
        List<Integer> picked = stonesOf(set);
        if (picked.isEmpty() || picked.size() > hand.most() || wayOf(33, picked) > hand.time(height)) {
            return 0;
        }
        int odds = 100 - hand.slip() * height;
        for (int other : stonesOf(lie)) {
            boolean touched = false;
            for (int k : picked) {
                touched |= far(now.lying.get(k), now.lying.get(other)) == 1;
            }
            odds -= touched && !picked.contains(other) ? 6 : 0;
        }
        return Math.max(odds, 0);
    }

    private int highOf(Hand hand, int set, int lie) {
        int best = 1;
        int most = oddsOf(hand, set, lie, 1);
        for (int height = 2; height <= 9; height++) {
            int odds = oddsOf(hand, set, lie, height);
            best = odds > most ? height : best;
            most = Math.max(most, odds);
        }
        return best;
    }

    private int oddsByHigh(Hand hand, int set, int lie) {
        return oddsOf(hand, set, lie, highOf(hand, set, lie));
    }

    int way(int set) {
        return allLie(set) ? wayOf(33, stonesOf(set)) : no(-6);
    }

    int odds(int hand, int set, int height) {
        if (!isHand(hand)) {
            return no(-1);
        }
        return in(height, 1, 9) && allLie(set) ? oddsOf(now.hands.get(hand), set, lies(), height) : no(-6);
    }

    int high(int hand, int set, int what) {
        if (!isHand(hand)) {
            return no(-1);
        }
        if (!in(what, 0, 1)) {
            return no(-5);
        }
        if (!allLie(set)) {
            return no(-6);
        }
        Hand one = now.hands.get(hand);
        return what == 0 ? highOf(one, set, lies()) : oddsByHigh(one, set, lies());
    }

    // ---- what comes of it

    /**
     * The sizes in which n stones go: so many sets of k, and the one that is left over, if there is one. All sets of
     * one of these sizes may be next. The answers are the chance by each of them, in the order of their bits.
     */
    private LinkedHashMap<Integer, Integer> chancesByFirst(Hand hand, int lie, int k, int sets, int over) {
        LinkedHashMap<Integer, Integer> chances = new LinkedHashMap<>();
        for (int set = 1; set < 32; set++) {
            int size = Integer.bitCount(set);
            if ((set & lie) != set) {
                continue;
            }
            if (size == k && sets > 0) {
                int behind = chanceOf(hand, lie - set, k, sets - 1, over);
                chances.put(set, behind * oddsByHigh(hand, set, lie) / 100);
            } else if (size == over && over > 0) {
                int behind = chanceOf(hand, lie - set, k, sets, 0);
                chances.put(set, behind * oddsByHigh(hand, set, lie) / 100);
            }
        }
        return chances;
    }

    private int chanceOf(Hand hand, int lie, int k, int sets, int over) {
        int most = lie == 0 ? 1000000 : 0;
        for (int chance : chancesByFirst(hand, lie, k, sets, over).values()) {
            most = Math.max(most, chance);
        }
        return most;
    }

    private int chanceNow(Hand hand, int k) {
        int n = now.lying.size();
        return chanceOf(hand, lies(), k, n / k, n % k);
    }

    private int planNow(Hand hand, int k) {
        int n = now.lying.size();
        int plan = 0;
        int most = -1;
        for (Map.Entry<Integer, Integer> first : chancesByFirst(hand, lies(), k, n / k, n % k).entrySet()) {
            if (first.getValue() > most) {
                most = first.getValue();
                plan = first.getKey();
            }
        }
        return plan;
    }

    int chance(int hand, int stage) {
        return !isHand(hand) ? no(-1) : !in(stage, 1, 4) ? no(-6) : chanceNow(now.hands.get(hand), stage);
    }

    int plan(int hand, int stage) {
        return !isHand(hand) ? no(-1) : !in(stage, 1, 4) ? no(-6) : planNow(now.hands.get(hand), stage);
    }

    int bestStage(int hand) {
        if (!isHand(hand)) {
            return no(-1);
        }
        int best = 4;
        for (int k = 3; k >= 1; k--) {
            best = chanceNow(now.hands.get(hand), k) >= chanceNow(now.hands.get(hand), best) ? k : best;
        }
        return best;
    }

    int bestHand(int stage) {
        if (now.hands.isEmpty()) {
            return no(-5);
        }
        if (!in(stage, 1, 4)) {
            return no(-6);
        }
        Hand best = now.hands.get(0);
        for (Hand hand : now.hands) {
            best = chanceNow(hand, stage) > chanceNow(best, stage) ? hand : best;
        }
        return best.m;
    }

    int keep(int hand) {
        if (!isHand(hand)) {
            return no(-1);
        }
        int slip = now.hands.get(hand).slip();
        int best = 5;
        for (int k = 4; k >= 0; k--) {
            best = k * Math.max(0, 100 - slip * k * k) >= best * Math.max(0, 100 - slip * best * best) ? k : best;
        }
        return best;
    }

    /** -1 to -6 of a shelf where a chance of 100 for each hand is wanted, else 0. */
    private int chancesWanted(int s) {
        int why = rowWanted(s);
        if (why != 0) {
            return why;
        }
        if (now.hands.isEmpty() || lengthOf(shelves.get(s)) < now.hands.size()) {
            return -5;
        }
        for (Hand hand : now.hands) {
            if (!in(intAt(s, hand.m), 0, 100)) {
                return -6;
            }
        }
        return 0;
    }

    int first(int s, int hand, int n) {
        if (!isHand(hand)) {
            return no(-1);
        }
        int why = chancesWanted(s);
        if (why != 0 || !in(n, 1, 100)) {
            return no(why != 0 ? why : -6);
        }
        long left = 1000000;
        long[] got = new long[4];
        for (int turn = 0; turn < n; turn++) {
            int who = (now.whose + turn) % now.hands.size();
            long through = left * intAt(s, who) / 100;
            got[who] += through;
            left -= through;
        }
        return (int) got[hand];
    }

    int turns(int s, int f) {
        int why = chancesWanted(s);
        if (why != 0 || !in(f, 0, 1000000)) {
            return noApart(why != 0 ? why : -6);
        }
        long left = 1000000;
        int turns = 0;
        while (left > f && turns < 1000) {
            left -= left * intAt(s, (now.whose + turns) % now.hands.size()) / 100;
            turns++;
        }
        return left <= f ? turns : NONE;
    }

    long alike() {
        long least = 0;
        for (int down = -5; down <= 5; down++) {
            for (int right = -5; right <= 5; right++) {
                long bits = shifted(down, right);
                least = bits > 0 && (least == 0 || bits < least) ? bits : least;
            }
        }
        return least;
    }

    private long shifted(int down, int right) {
        long bits = 0;
        for (int cell : now.lying.values()) {
            if (!in(cell / 6 + down, 0, 5) || !in(cell % 6 + right, 0, 5)) {
                return 0;
            }
            bits |= 1L << 6 * (cell / 6 + down) + cell % 6 + right;
        }
        return bits;
    }

    int lying(int what) {
        if (!in(what, 0, 2)) {
            return noApart(-5);
        }
        int spread = 0;
        int near = 0;
        int lonely = NONE;
        int loneliest = -1;
        for (Map.Entry<Integer, Integer> one : now.lying.entrySet()) {
            int nearest = Integer.MAX_VALUE;
            for (Map.Entry<Integer, Integer> other : now.lying.entrySet()) {
                if (!one.getKey().equals(other.getKey())) {
                    int far = far(one.getValue(), other.getValue());
                    spread = Math.max(spread, far);
                    near += far == 1 && one.getKey() < other.getKey() ? 1 : 0;
                    nearest = Math.min(nearest, far);
                }
            }
            if (now.lying.size() > 1 && nearest > loneliest) {
                loneliest = nearest;
                lonely = one.getKey();
            }
        }
        return what == 0 ? spread : what == 1 ? near : lonely;
    }

    private int turnWanted(int hand, int s, int n) {
        int why = isHand(hand) ? rowWanted(s) : -1;
        return why != 0 ? why : n < 0 ? -4 : n > lengthOf(shelves.get(s)) ? -5 : n > 20 ? -6 : 0;
    }

    /** The first wrong one, or NONE, and its chance. */
    private int[] judged(int hand, int s, int n) {
        int lie = lies();
        int chance = 1000000;
        for (int i = 0; i < n; i++) {
            int element = intAt(s, i);
            int set = element / 10;
            int height = element % 10;
            boolean isToss = element > 0 && height > 0 && set < 32 && (set & lie) == set;
            int odds = isToss ? oddsOf(now.hands.get(hand), set, lie, height) : 0;
            if (odds == 0) {
                return new int[] {i, 0};
            }
            chance = (int) ((long) chance * odds / 100);
            lie -= set;
        }
        return new int[] {NONE, chance};
    }

    int judge(int hand, int s, int n) {
        int why = turnWanted(hand, s, n);
        return why != 0 ? noApart(why) : judged(hand, s, n)[0];
    }

    int told(int hand, int s, int n) {
        int why = turnWanted(hand, s, n);
        if (why == 0 && judged(hand, s, n)[0] != NONE) {
            why = -6;
        }
        return why != 0 ? no(why) : judged(hand, s, n)[1];
    }

    // ---- in truth

    private int draw(int n) {
        now.seed = (int) (now.seed * 1103515245L + 12345L);
        return (int) ((now.seed & 0xffffffffL) >> 16) % n;
    }

    int toss(int set, int height) {
        if (now.hands.isEmpty()) {
            return no(-5);
        }
        if (!in(height, 1, 9) || set == 0 || !allLie(set)) {
            return no(-6);
        }
        return tossed(set, height) ? 1 : 0;
    }

    private boolean tossed(int set, int height) {
        Hand hand = now.hands.get(now.whose);
        int odds = oddsOf(hand, set, lies(), height);
        boolean done = draw(100) < odds;
        hand.tosses++;
        if (!done) {
            now.lying.clear();
            now.faults++;
            now.whose = (now.whose + 1) % now.hands.size();
            return false;
        }
        now.lying.keySet().removeAll(stonesOf(set));
        if (now.lying.isEmpty()) {
            hand.rounds += hand.stage == 4 ? 1 : 0;
            hand.stage = hand.stage % 4 + 1;
        }
        return true;
    }

    int throwDown(int force) {
        return in(force, 0, 2) ? thrown(force) : no(-6);
    }

    private int thrown(int force) {
        int came = 0;
        for (int k = 0; k < 5; k++) {
            if (now.lying.containsKey(k)) {
                continue;
            }
            int row = 2 + draw(2 * force + 2) - force;
            int column = 2 + draw(2 * force + 2) - force;
            int cell = 6 * row + column;
            while (now.lying.containsValue(cell)) {
                cell = (cell + 1) % 36;
            }
            now.lying.put(k, cell);
            came++;
        }
        return came;
    }

    int plays(int n) {
        if (now.hands.isEmpty()) {
            return no(-5);
        }
        if (!in(n, 1, 20)) {
            return no(-6);
        }
        int faults = 0;
        for (int round = 0; round < n; round++) {
            thrown(1);
            boolean going = true;
            while (going && !now.lying.isEmpty()) {
                Hand hand = now.hands.get(now.whose);
                int set = planNow(hand, hand.stage);
                going = tossed(set, highOf(hand, set, lies()));
                faults += going ? 0 : 1;
            }
        }
        return faults;
    }

    int seed(int v) {
        int was = now.seed;
        now.seed = v;
        return was;
    }

    // ---- acts, the image, status

    int act(int hand, int act, int x) {
        ran = new ArrayList<>();
        if (!isHand(hand) || !in(act, 0, 2)) {
            return 0;
        }
        Hand one = now.hands.get(hand);
        return act == 0 ? one.throwing(x) : act == 1 ? one.picking(x) : one.catching(x);
    }

    int trace(int i) {
        return in(i, 0, Math.min(ran.size(), 20) - 1) ? ran.get(i) : NONE;
    }

    int image() {
        image = now.twin();
        return now.hands.size();
    }

    int restore() {
        if (image == null) {
            return no(-6);
        }
        now = image.twin();
        shelves.values().removeIf(what -> what instanceof Integer hand && hand >= now.hands.size());
        return now.hands.size();
    }

    int status(int what) {
        int tosses = 0;
        for (Hand hand : now.hands) {
            tosses += hand.tosses;
        }
        switch (what) {
            case 0: return now.hands.size();
            case 1: return lies();
            case 2: return now.hands.isEmpty() ? NONE : now.whose;
            case 3: return tosses;
            case 4: return now.faults;
            case 5: return now.seed;
            case 6: return ran.size();
            default: return in(what, 11, 17) ? refusals[what - 10] : NONE;
        }
    }
}
