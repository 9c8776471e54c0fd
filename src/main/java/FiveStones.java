import java.util.Arrays;

/**
 * Five stones, a game of the hand on a step: stones that lie or are up, hands by kinds, what a toss
 * may bring, and tosses, throws and turns in truth by draws. The document tells what each call does.
 *
 * All rows are made with the object and used again, so that no later call makes anything.
 */
public final class FiveStones {
    public static final int NONE = -1;

    private static final int NOBODY = -1;
    private static final int OTHER = -2;
    private static final int NOTHING = -3;
    private static final int BELOW = -4;
    private static final int BEYOND = -5;
    private static final int WRONG = -6;
    private static final int ROOM = -7;
    private static final int REFUSALS = 7;
    /** Where NONE or a small number is an answer, a refusal is told this much lower. */
    private static final int APART = 10;

    private static final int SHELVES = 8;
    private static final int SORTS = 4;
    private static final int LONGEST = 160;
    private static final int STONES = 5;
    private static final int SETS = 32;
    private static final int CELLS = 36;
    private static final int SIDE = 6;
    private static final int BASE = 33;
    private static final int MIDDLE = 2;
    private static final int HANDS = 4;
    private static final int STAGES = 4;
    private static final int HIGHEST = 9;
    private static final int HIGHEST_A = 9;
    private static final int STRONGEST = 2;
    private static final int MOST_TOLD = 20;
    private static final int MOST_ROUNDS = 20;
    private static final int MOST_TURNS = 100;
    private static final int LAST_TURN = 1000;
    private static final int CENT = 100;
    private static final int MILLION = 1000000;

    private static final int KINDS = 7;
    private static final int HAND = 0;
    private static final int SMALL = 1;
    private static final int QUICK = 2;
    private static final int SURE = 3;
    private static final int TIRED = 4;
    private static final int LEFT = 5;
    private static final int COLD = 6;
    /** The kind above each kind. */
    private static final int[] ABOVE = {NONE, HAND, HAND, QUICK, HAND, SMALL, TIRED};

    private final Shelf[] shelves = new Shelf[SHELVES];
    private final Table table = new Table();
    private final Table image = new Table();
    private final Table draft = new Table();
    private final Mind mind = new Mind();
    private final Acts acts = new Acts();
    private final Reader reader = new Reader();
    private final int[] refused = new int[REFUSALS + 1];
    private boolean imaged = false;
    private int latestFault = NONE;

    public FiveStones() {
        for (int s = 0; s < SHELVES; s++) {
            shelves[s] = new Shelf();
        }
    }

    // ---- shelves and rows

    public int row(int s, int sort, int n) {
        Shelf shelf = shelfAt(s);
        if (shelf == null) {
            return refuse(NOBODY);
        }
        if (n < 0) {
            return refuse(BELOW);
        }
        if (sort < 0 || sort >= SORTS) {
            return refuse(WRONG);
        }
        if (n > LONGEST) {
            return refuse(ROOM);
        }
        shelf.takeRow(sort, n);
        return 1;
    }

    public int set(int s, int i, long v) {
        Shelf shelf = shelfAt(s);
        int why = whyNoRow(shelf);
        if (why != 0) {
            return refuse(why);
        }
        if (i < 0 || i >= shelf.length) {
            return refuse(BEYOND);
        }
        shelf.put(i, v);
        return 1;
    }

    public int copy(int p, int q, int i, int j, int n) {
        Shelf from = shelfAt(p);
        Shelf to = shelfAt(q);
        int why = whyNoCopy(from, to, n);
        if (why != 0) {
            return refuse(why);
        }
        if (!from.reaches(i, n) || !to.reaches(j, n)) {
            return refuse(BEYOND);
        }
        System.arraycopy(from.elements, i, to.elements, j, n);
        return 1;
    }

    public long element(int s, int i) {
        Shelf shelf = shelfAt(s);
        if (shelf == null || shelf.what != Shelf.ROW || i < 0 || i >= shelf.length) {
            return 0;
        }
        return shelf.elements[i];
    }

    public int show(int s, int hand) {
        Shelf shelf = shelfAt(s);
        if (shelf == null) {
            return refuse(NOBODY);
        }
        if (hand == NONE) {
            shelf.what = Shelf.EMPTY;
            return 0;
        }
        if (table.handAt(hand) == null) {
            return refuse(NOBODY);
        }
        shelf.what = Shelf.HELD_HAND;
        shelf.hand = hand;
        return 1;
    }

    public int holds(int s) {
        Shelf shelf = shelfAt(s);
        if (shelf == null || shelf.what == Shelf.EMPTY) {
            return NONE;
        }
        return shelf.what == Shelf.HELD_HAND ? shelf.hand : CENT + shelf.sort;
    }

    public int says(int s, int kind) {
        Shelf shelf = shelfAt(s);
        if (shelf == null || kind < 0 || kind >= KINDS) {
            return refuse(NOBODY);
        }
        if (shelf.what == Shelf.ROW) {
            return refuse(OTHER);
        }
        Hand held = shelf.what == Shelf.HELD_HAND ? table.handAt(shelf.hand) : null;
        if (held == null) {
            return refuse(NOTHING);
        }
        return held.isOf(kind) ? held.saysAs(kind) : refuse(OTHER);
    }

    // ---- hands, stones and games

    public int hand(int kind, int a) {
        if (kind < 0 || kind >= KINDS) {
            return refuse(NOBODY);
        }
        if (a < 0 || a > HIGHEST_A) {
            return refuse(WRONG);
        }
        if (!table.hasRoom()) {
            return refuse(ROOM);
        }
        return table.addHand(kind, a);
    }

    public int handOf(int hand, int what) {
        Hand one = table.handAt(hand);
        if (one == null) {
            return refuse(BEYOND);
        }
        switch (what) {
            case 0: return one.kind;
            case 1: return one.a;
            case 2: return one.level;
            case 3: return one.rounds;
            case 4: return one.tosses;
            case 5: return one.slip();
            case 6: return one.most();
            default: return refuse(BEYOND);
        }
    }

    public int stone(int stone, int cell) {
        if (stone < 0 || stone >= STONES) {
            return refuseApart(NOBODY);
        }
        if (cell != NONE && !table.isFreeFor(stone, cell)) {
            return refuseApart(WRONG);
        }
        int lay = table.cells[stone];
        table.cells[stone] = cell;
        return lay;
    }

    public int stoneAt(int stone) {
        if (stone < 0 || stone >= STONES) {
            return refuseApart(NOBODY);
        }
        return table.cells[stone];
    }

    public int stage(int hand, int v) {
        Hand one = table.handAt(hand);
        int why = whyNoStage(one, v);
        if (why != 0) {
            return refuse(why);
        }
        int was = one.level;
        one.level = v;
        return was;
    }

    public int turn(int hand) {
        if (table.handAt(hand) == null) {
            return refuse(NOBODY);
        }
        int was = table.whose;
        table.whose = hand;
        return was;
    }

    public int game(int s) {
        Shelf shelf = shelfAt(s);
        int why = whyNoRow(shelf);
        if (why != 0) {
            return refuse(why);
        }
        draft.copyFrom(table);
        int items = reader.read(shelf, draft);
        latestFault = reader.faultAt;
        if (latestFault != NONE) {
            return refuse(WRONG);
        }
        table.copyFrom(draft);
        return items;
    }

    public int fault() {
        return latestFault;
    }

    // ---- a toss, and what comes of it

    public int way(int set) {
        if (!table.allLie(set)) {
            return refuse(WRONG);
        }
        mind.look(table);
        return mind.ways[set];
    }

    public int odds(int hand, int set, int height) {
        Hand one = table.handAt(hand);
        if (one == null) {
            return refuse(NOBODY);
        }
        if (!isHeight(height) || !table.allLie(set)) {
            return refuse(WRONG);
        }
        mind.look(table);
        return mind.oddsAt(one, set, mind.lie, height);
    }

    public int high(int hand, int set, int what) {
        Hand one = table.handAt(hand);
        if (one == null) {
            return refuse(NOBODY);
        }
        if (what != 0 && what != 1) {
            return refuse(BEYOND);
        }
        if (!table.allLie(set)) {
            return refuse(WRONG);
        }
        mind.look(table);
        return what == 0 ? mind.bestHeight(one, set, mind.lie) : mind.bestOdds(one, set, mind.lie);
    }

    public int chance(int hand, int stage) {
        int why = thinkOf(hand, stage);
        return why == 0 ? mind.chances[mind.lie] : refuse(why);
    }

    public int plan(int hand, int stage) {
        int why = thinkOf(hand, stage);
        return why == 0 ? mind.plans[mind.lie] : refuse(why);
    }

    public int bestStage(int hand) {
        Hand one = table.handAt(hand);
        if (one == null) {
            return refuse(NOBODY);
        }
        mind.look(table);
        int best = 1;
        int most = NONE;
        for (int k = 1; k <= STAGES; k++) {
            mind.thinkThrough(one, k);
            if (mind.chances[mind.lie] > most) {
                most = mind.chances[mind.lie];
                best = k;
            }
        }
        return best;
    }

    public int bestHand(int stage) {
        if (table.count == 0) {
            return refuse(BEYOND);
        }
        if (!isStage(stage)) {
            return refuse(WRONG);
        }
        mind.look(table);
        int best = 0;
        int most = NONE;
        for (int h = 0; h < table.count && h < HANDS; h++) {
            mind.thinkThrough(table.hands[h], stage);
            if (mind.chances[mind.lie] > most) {
                most = mind.chances[mind.lie];
                best = h;
            }
        }
        return best;
    }

    public int keep(int hand) {
        Hand one = table.handAt(hand);
        if (one == null) {
            return refuse(NOBODY);
        }
        int best = 0;
        int most = 0;
        for (int k = 1; k <= STONES; k++) {
            int worth = k * Math.max(0, CENT - one.slip() * k * k);
            if (worth > most) {
                most = worth;
                best = k;
            }
        }
        return best;
    }

    public int first(int s, int hand, int n) {
        Shelf shelf = shelfAt(s);
        int why = table.handAt(hand) == null ? NOBODY : whyNoChances(shelf);
        if (why == 0 && (n < 1 || n > MOST_TURNS)) {
            why = WRONG;
        }
        if (why != 0) {
            return refuse(why);
        }
        int left = MILLION;
        int sum = 0;
        int who = table.whose;
        for (int t = 0; t < n; t++) {
            int through = left * shelf.intAt(who) / CENT;
            left -= through;
            sum += who == hand ? through : 0;
            who = table.behind(who);
        }
        return sum;
    }

    public int turns(int s, int f) {
        Shelf shelf = shelfAt(s);
        int why = whyNoChances(shelf);
        if (why == 0 && (f < 0 || f > MILLION)) {
            why = WRONG;
        }
        if (why != 0) {
            return refuseApart(why);
        }
        int left = MILLION;
        int who = table.whose;
        for (int t = 0; t <= LAST_TURN; t++) {
            if (left <= f) {
                return t;
            }
            left -= left * shelf.intAt(who) / CENT;
            who = table.behind(who);
        }
        return NONE;
    }

    public long alike() {
        int top = SIDE;
        int edge = SIDE;
        for (int k = 0; k < STONES; k++) {
            if (table.cells[k] != NONE) {
                top = Math.min(top, table.cells[k] / SIDE);
                edge = Math.min(edge, table.cells[k] % SIDE);
            }
        }
        long bits = 0;
        for (int k = 0; k < STONES; k++) {
            if (table.cells[k] != NONE) {
                bits |= 1L << (table.cells[k] - SIDE * top - edge);
            }
        }
        return bits;
    }

    public int lying(int what) {
        switch (what) {
            case 0: return table.spread();
            case 1: return table.nearPairs();
            case 2: return table.lonely();
            default: return refuseApart(BEYOND);
        }
    }

    public int judge(int hand, int s, int n) {
        Hand one = table.handAt(hand);
        Shelf shelf = shelfAt(s);
        int why = whyNotTold(one, shelf, n);
        if (why != 0) {
            return refuseApart(why);
        }
        mind.look(table);
        return mind.follow(one, shelf, n);
    }

    public int told(int hand, int s, int n) {
        Hand one = table.handAt(hand);
        Shelf shelf = shelfAt(s);
        int why = whyNotTold(one, shelf, n);
        if (why != 0) {
            return refuse(why);
        }
        mind.look(table);
        return mind.follow(one, shelf, n) == NONE ? mind.followed : refuse(WRONG);
    }

    // ---- in truth

    public int toss(int set, int height) {
        Hand one = table.handAt(table.whose);
        if (one == null) {
            return refuse(BEYOND);
        }
        if (!isHeight(height) || set == 0 || !table.allLie(set)) {
            return refuse(WRONG);
        }
        mind.look(table);
        return tossInTruth(one, set, height) ? 1 : 0;
    }

    public int throwDown(int force) {
        if (force < 0 || force > STRONGEST) {
            return refuse(WRONG);
        }
        return table.throwWhatIsUp(force);
    }

    public int plays(int n) {
        if (table.count == 0) {
            return refuse(BEYOND);
        }
        if (n < 1 || n > MOST_ROUNDS) {
            return refuse(WRONG);
        }
        int before = table.faults;
        for (int round = 0; round < n; round++) {
            playRound();
        }
        return table.faults - before;
    }

    public int seed(int v) {
        int was = table.drawSeed;
        table.drawSeed = v;
        return was;
    }

    // ---- acts

    public int act(int hand, int act, int x) {
        return acts.begin(table.handAt(hand), act, x);
    }

    public int trace(int i) {
        return acts.bodyAt(i);
    }

    // ---- the image and counts

    public int image() {
        image.copyFrom(table);
        imaged = true;
        return table.count;
    }

    public int restore() {
        if (!imaged) {
            return refuse(WRONG);
        }
        table.copyFrom(image);
        for (int s = 0; s < SHELVES; s++) {
            if (shelves[s].what == Shelf.HELD_HAND && table.handAt(shelves[s].hand) == null) {
                shelves[s].what = Shelf.EMPTY;
            }
        }
        return table.count;
    }

    public int status(int what) {
        switch (what) {
            case 0: return table.count;
            case 1: return table.lyingBits();
            case 2: return table.count == 0 ? NONE : table.whose;
            case 3: return table.allTosses();
            case 4: return table.faults;
            case 5: return table.drawSeed;
            case 6: return acts.ran;
            default: break;
        }
        int refusal = what - APART;
        return refusal >= 1 && refusal <= REFUSALS ? refused[refusal] : NONE;
    }

    // ---- what the calls share

    private int refuse(int code) {
        if (code <= NOBODY && code >= ROOM) {
            refused[-code]++;
        }
        return code;
    }

    private int refuseApart(int code) {
        return refuse(code) - APART;
    }

    private Shelf shelfAt(int s) {
        return s >= 0 && s < SHELVES ? shelves[s] : null;
    }

    private static boolean isStage(int stage) {
        return stage >= 1 && stage <= STAGES;
    }

    private static boolean isHeight(int height) {
        return height >= 1 && height <= HIGHEST;
    }

    private static int whyNoStage(Hand one, int stage) {
        if (one == null) {
            return NOBODY;
        }
        return isStage(stage) ? 0 : WRONG;
    }

    /** The mind goes through a stage of what lies now; else the refusal, which is not counted yet. */
    private int thinkOf(int hand, int stage) {
        Hand one = table.handAt(hand);
        int why = whyNoStage(one, stage);
        if (why == 0) {
            mind.look(table);
            mind.thinkThrough(one, stage);
        }
        return why;
    }

    /** The refusal of a shelf where a row is wanted; 0 if it holds one. */
    private static int whyNoRow(Shelf shelf) {
        if (shelf == null) {
            return NOBODY;
        }
        if (shelf.what == Shelf.HELD_HAND) {
            return OTHER;
        }
        return shelf.what == Shelf.EMPTY ? NOTHING : 0;
    }

    /** A hand in either shelf is refused ahead of nothing in the other, as the order of refusals has it. */
    private static int whyNoCopy(Shelf from, Shelf to, int n) {
        if (from == null || to == null) {
            return NOBODY;
        }
        if (from.what == Shelf.HELD_HAND || to.what == Shelf.HELD_HAND) {
            return OTHER;
        }
        if (from.what == Shelf.EMPTY || to.what == Shelf.EMPTY) {
            return NOTHING;
        }
        if (from.sort != to.sort) {
            return OTHER;
        }
        return n < 0 ? BELOW : 0;
    }

    /** The refusal of a shelf where a chance for each hand is wanted; 0 if it has them. */
    private int whyNoChances(Shelf shelf) {
        int why = whyNoRow(shelf);
        if (why != 0) {
            return why;
        }
        if (table.count == 0 || shelf.length < table.count) {
            return BEYOND;
        }
        for (int h = 0; h < table.count; h++) {
            if (shelf.intAt(h) < 0 || shelf.intAt(h) > CENT) {
                return WRONG;
            }
        }
        return 0;
    }

    private static int whyNotTold(Hand one, Shelf shelf, int n) {
        int why = one == null ? NOBODY : whyNoRow(shelf);
        if (why != 0) {
            return why;
        }
        if (n < 0) {
            return BELOW;
        }
        if (n > shelf.length) {
            return BEYOND;
        }
        return n > MOST_TOLD ? WRONG : 0;
    }

    /** The mind must have looked at the table as it is. */
    private boolean tossInTruth(Hand one, int set, int height) {
        boolean done = table.drawBelow(CENT) < mind.oddsAt(one, set, mind.lie, height);
        one.tosses++;
        if (done) {
            table.pickUp(set);
            if (table.lyingBits() == 0) {
                one.riseStage();
            }
        } else {
            table.failTurn();
        }
        return done;
    }

    /** A fault takes all stones up, so that none lying ends the round either way. */
    private void playRound() {
        table.throwWhatIsUp(1);
        Hand one = table.handAt(table.whose);
        for (int t = 0; t < STONES && one != null && table.lyingBits() != 0; t++) {
            mind.look(table);
            mind.thinkThrough(one, one.level);
            int next = mind.plans[mind.lie];
            tossInTruth(one, next, mind.bestHeight(one, next, mind.lie));
        }
    }

    private static int farOf(int cell, int other) {
        return Math.abs(cell / SIDE - other / SIDE) + Math.abs(cell % SIDE - other % SIDE);
    }

    private static boolean isWithin(int set, int whole) {
        return (set & ~whole) == 0;
    }

    /** Holds nothing, a row or a hand's number; the row's elements stay made for the next row. */
    private static final class Shelf {
        static final int EMPTY = 0;
        static final int ROW = 1;
        static final int HELD_HAND = 2;

        final long[] elements = new long[LONGEST];
        int what = EMPTY;
        int hand = NONE;
        int sort = 0;
        int length = 0;

        void takeRow(int newSort, int n) {
            what = ROW;
            sort = newSort;
            length = n;
            Arrays.fill(elements, 0L);
        }

        void put(int i, long v) {
            switch (sort) {
                case 0: elements[i] = (byte) v; break;
                case 1: elements[i] = (short) v; break;
                case 2: elements[i] = (int) v; break;
                default: elements[i] = v; break;
            }
        }

        /** 0 where there is none: no letter of a text, so that its end needs no test of its own. */
        int intAt(int i) {
            return i >= 0 && i < length ? (int) elements[i] : 0;
        }

        /** The end is summed as a long, as two great ints would wrap. */
        boolean reaches(int from, int n) {
            return from >= 0 && (long) from + n <= length;
        }
    }

    private static final class Hand {
        final int number;
        int kind = HAND;
        int a = 0;
        int level = 1;
        int rounds = 0;
        int tosses = 0;

        Hand(int number) {
            this.number = number;
        }

        void begin(int newKind, int newA) {
            kind = newKind;
            a = newA;
            level = 1;
            rounds = 0;
            tosses = 0;
        }

        void copyFrom(Hand other) {
            kind = other.kind;
            a = other.a;
            level = other.level;
            rounds = other.rounds;
            tosses = other.tosses;
        }

        boolean isOf(int wanted) {
            int k = kind;
            for (int step = 0; step < KINDS && k >= 0 && k < KINDS; step++) {
                if (k == wanted) {
                    return true;
                }
                k = ABOVE[k];
            }
            return false;
        }

        int timeAt(int height) {
            switch (kind) {
                case QUICK:
                case SURE: return 4 * height + a;
                case COLD: return 4 * height - a;
                default: return 4 * height;
            }
        }

        int slip() {
            switch (kind) {
                case SURE: return 2;
                case TIRED:
                case COLD: return 3 + tosses / 10;
                case LEFT: return 5;
                default: return 3;
            }
        }

        int most() {
            return kind == SMALL || kind == LEFT ? a % 3 + 1 : 4;
        }

        int saysAs(int taken) {
            switch (taken) {
                case HAND: return tosses;
                case SMALL: return most();
                case QUICK: return timeAt(5);
                case COLD: return a;
                default: return slip();
            }
        }

        void riseStage() {
            level++;
            if (level > STAGES) {
                level = 1;
                rounds++;
            }
        }
    }

    /** All that an image keeps: stones, hands, whose turn it is, faults and the seed. */
    private static final class Table {
        final int[] cells = new int[STONES];
        final Hand[] hands = new Hand[HANDS];
        int count = 0;
        int whose = 0;
        int faults = 0;
        int drawSeed = 1;

        Table() {
            Arrays.fill(cells, NONE);
            for (int h = 0; h < HANDS; h++) {
                hands[h] = new Hand(h);
            }
        }

        void copyFrom(Table other) {
            System.arraycopy(other.cells, 0, cells, 0, STONES);
            for (int h = 0; h < HANDS; h++) {
                hands[h].copyFrom(other.hands[h]);
            }
            count = other.count;
            whose = other.whose;
            faults = other.faults;
            drawSeed = other.drawSeed;
        }

        Hand handAt(int hand) {
            return hand >= 0 && hand < count && hand < HANDS ? hands[hand] : null;
        }

        boolean hasRoom() {
            return count < HANDS;
        }

        int addHand(int kind, int a) {
            if (!hasRoom()) {
                return NONE;
            }
            hands[count].begin(kind, a);
            count++;
            return count - 1;
        }

        int behind(int hand) {
            return hand + 1 < count ? hand + 1 : 0;
        }

        int allTosses() {
            int sum = 0;
            for (int h = 0; h < count; h++) {
                sum += hands[h].tosses;
            }
            return sum;
        }

        int lyingBits() {
            int bits = 0;
            for (int k = 0; k < STONES; k++) {
                bits |= cells[k] == NONE ? 0 : 1 << k;
            }
            return bits;
        }

        boolean allLie(int set) {
            return isWithin(set, lyingBits());
        }

        boolean isFreeFor(int stone, int cell) {
            if (cell < 0 || cell >= CELLS) {
                return false;
            }
            for (int k = 0; k < STONES; k++) {
                if (k != stone && cells[k] == cell) {
                    return false;
                }
            }
            return true;
        }

        int spread() {
            int most = 0;
            for (int k = 0; k < STONES; k++) {
                for (int other = k + 1; other < STONES; other++) {
                    if (cells[k] != NONE && cells[other] != NONE) {
                        most = Math.max(most, farOf(cells[k], cells[other]));
                    }
                }
            }
            return most;
        }

        int nearPairs() {
            int pairs = 0;
            for (int k = 0; k < STONES; k++) {
                for (int other = k + 1; other < STONES; other++) {
                    if (areNear(k, other)) {
                        pairs++;
                    }
                }
            }
            return pairs;
        }

        boolean areNear(int stone, int other) {
            return cells[stone] != NONE && cells[other] != NONE && farOf(cells[stone], cells[other]) == 1;
        }

        int lonely() {
            int best = NONE;
            int most = 0;
            for (int k = 0; k < STONES; k++) {
                int nearest = nearestTo(k);
                if (nearest > most) {
                    most = nearest;
                    best = k;
                }
            }
            return best;
        }

        /** Two stones never lie in one cell, so 0 is free to tell that there is no other, or it is up. */
        int nearestTo(int stone) {
            int least = 0;
            for (int other = 0; other < STONES; other++) {
                if (other != stone && cells[stone] != NONE && cells[other] != NONE) {
                    int far = farOf(cells[stone], cells[other]);
                    least = least == 0 ? far : Math.min(least, far);
                }
            }
            return least;
        }

        int drawBelow(int n) {
            drawSeed = drawSeed * 1103515245 + 12345;
            return n > 0 ? (drawSeed >>> 16) % n : 0;
        }

        void pickUp(int set) {
            for (int k = 0; k < STONES; k++) {
                if ((set >> k & 1) == 1) {
                    cells[k] = NONE;
                }
            }
        }

        void failTurn() {
            Arrays.fill(cells, NONE);
            faults++;
            whose = behind(whose);
        }

        int throwWhatIsUp(int force) {
            int came = 0;
            for (int k = 0; k < STONES; k++) {
                if (cells[k] == NONE) {
                    int line = MIDDLE + drawBelow(2 * force + 2) - force;
                    int column = MIDDLE + drawBelow(2 * force + 2) - force;
                    cells[k] = nextFree(k, SIDE * line + column);
                    came++;
                }
            }
            return came;
        }

        int nextFree(int stone, int from) {
            int cell = from;
            for (int step = 0; step < CELLS && !isFreeFor(stone, cell); step++) {
                cell = cell + 1 < CELLS ? cell + 1 : 0;
            }
            return cell;
        }
    }

    /** Thinks about a laying and changes nothing of it; look() comes ahead of all other thoughts. */
    private static final class Mind {
        /** Above every way: from BASE through all stones and back is never more than six times ten. */
        private static final int TOO_FAR = 100;

        final int[] ways = new int[SETS];
        final int[] chances = new int[SETS];
        final int[] plans = new int[SETS];
        private final int[] nears = new int[STONES];
        /** The least way from BASE through a set to each stone of it, by 5 times the set and the stone. */
        private final int[] paths = new int[SETS * STONES];
        int lie = 0;
        int followed = 0;

        void look(Table table) {
            lie = table.lyingBits();
            for (int k = 0; k < STONES; k++) {
                nears[k] = 0;
                for (int other = 0; other < STONES; other++) {
                    if (other != k && table.areNear(k, other)) {
                        nears[k] |= 1 << other;
                    }
                }
            }
            ways[0] = 0;
            for (int set = 1; set <= lie && set < SETS; set++) {
                if (isWithin(set, lie)) {
                    ways[set] = wayThrough(table.cells, set);
                }
            }
        }

        /** The smaller sets must have been gone through ahead of this one. */
        private int wayThrough(int[] cells, int set) {
            int least = TOO_FAR;
            for (int last = 0; last < STONES; last++) {
                if ((set >> last & 1) == 1) {
                    int path = pathTo(cells, set, last);
                    paths[set * STONES + last] = path;
                    least = Math.min(least, path + farOf(cells[last], BASE));
                }
            }
            return least;
        }

        private int pathTo(int[] cells, int set, int last) {
            int rest = set & ~(1 << last);
            if (rest == 0) {
                return farOf(BASE, cells[last]);
            }
            int least = TOO_FAR;
            for (int ahead = 0; ahead < STONES; ahead++) {
                if ((rest >> ahead & 1) == 1) {
                    int path = paths[rest * STONES + ahead] + farOf(cells[ahead], cells[last]);
                    least = Math.min(least, path);
                }
            }
            return least;
        }

        int oddsAt(Hand hand, int set, int lyingThen, int height) {
            if (set <= 0 || set >= SETS || ways[set] > hand.timeAt(height)
                    || Integer.bitCount(set) > hand.most()) {
                return 0;
            }
            int touched = Integer.bitCount(touchedBy(set, lyingThen));
            return Math.max(0, CENT - hand.slip() * height - 6 * touched);
        }

        private int touchedBy(int set, int lyingThen) {
            int near = 0;
            for (int k = 0; k < STONES; k++) {
                if ((set >> k & 1) == 1) {
                    near |= nears[k];
                }
            }
            return near & lyingThen & ~set;
        }

        /** Every slip takes something for each height, so the first height with any odds has most. */
        int bestHeight(Hand hand, int set, int lyingThen) {
            for (int height = 1; height <= HIGHEST; height++) {
                if (oddsAt(hand, set, lyingThen, height) > 0) {
                    return height;
                }
            }
            return 1;
        }

        int bestOdds(Hand hand, int set, int lyingThen) {
            int odds = 0;
            for (int height = 1; height <= HIGHEST && odds == 0; height++) {
                odds = oddsAt(hand, set, lyingThen, height);
            }
            return odds;
        }

        /** Chances and plans of all that lies and of every part of it, the smaller sets first. */
        void thinkThrough(Hand hand, int stage) {
            chances[0] = MILLION;
            plans[0] = 0;
            for (int set = 1; set <= lie && set < SETS; set++) {
                if (isWithin(set, lie)) {
                    weigh(hand, stage, set);
                }
            }
        }

        private void weigh(Hand hand, int stage, int set) {
            int most = NONE;
            for (int next = 1; next <= set; next++) {
                if (isWithin(next, set) && mayBeNext(next, set, stage)) {
                    int chance = chances[set & ~next] * bestOdds(hand, next, set) / CENT;
                    if (chance > most) {
                        most = chance;
                        plans[set] = next;
                    }
                }
            }
            chances[set] = most;
        }

        /**
         * What is left over of the stones by the stage stays left over while sets of the stage's size
         * go, and is gone once it was picked: so the number of those that lie tells it.
         */
        private static boolean mayBeNext(int next, int set, int stage) {
            int size = Integer.bitCount(next);
            return size == stage || stage > 0 && size == Integer.bitCount(set) % stage;
        }

        /** The first wrong toss of a told turn, or NONE, and then its chance in followed. */
        int follow(Hand hand, Shelf shelf, int n) {
            int lyingThen = lie;
            followed = MILLION;
            for (int i = 0; i < n; i++) {
                int set = shelf.intAt(i) / 10;
                int height = shelf.intAt(i) % 10;
                if (!isHeight(height) || !isWithin(set, lyingThen)) {
                    return i;
                }
                int toldOdds = oddsAt(hand, set, lyingThen, height);
                if (toldOdds == 0) {
                    return i;
                }
                followed = followed * toldOdds / CENT;
                lyingThen &= ~set;
            }
            return NONE;
        }
    }

    /** Runs the bodies of acts and keeps the trace of the latest. */
    private static final class Acts {
        private static final int THROWS = 0;
        private static final int PICKS = 1;
        private static final int CATCHES = 2;
        private static final int KEPT = 20;
        /** No act opens more than seven bodies at once. */
        private static final int DEEPEST = 20;
        /** The body of each kind, 0 where it has none: throws, then picks, then catches. */
        private static final int[] BODIES = {
            10, 20, 0, 0, 51, 0, 70,
            11, 0, 30, 40, 0, 0, 71,
            12, 0, 0, 0, 50, 60, 0,
        };

        private final int[] bodies = new int[KEPT];
        int ran = 0;

        /** No hand (null) and no such act leave no trace. */
        int begin(Hand hand, int act, int x) {
            ran = 0;
            if (hand == null || act < THROWS || act > CATCHES) {
                return 0;
            }
            return run(hand, hand.kind, act, x, 0);
        }

        int bodyAt(int i) {
            return i >= 0 && i < ran && i < KEPT ? bodies[i] : NONE;
        }

        /** Runs the body of the kind, or of the next kind above that has one. */
        private int run(Hand hand, int from, int act, int x, int depth) {
            int kind = kindWithBody(from, act);
            if (kind == NONE || depth >= DEEPEST) {
                return 0;
            }
            int body = BODIES[act * KINDS + kind];
            note(body);
            int up = ABOVE[kind];
            int deeper = depth + 1;
            switch (body) {
                case 10: return x + hand.number;
                case 11: return run(hand, hand.kind, THROWS, x, deeper) * 2;
                case 12: return run(hand, hand.kind, PICKS, x, deeper)
                        ^ run(hand, hand.kind, THROWS, x - hand.a, deeper);
                case 20: return run(hand, up, THROWS, x, deeper) + hand.a;
                case 30: return run(hand, up, PICKS, x, deeper) * 3;
                case 40: return run(hand, up, PICKS, x + 1, deeper);
                case 50: return -run(hand, up, CATCHES, x, deeper);
                case 51: return run(hand, up, THROWS, x, deeper) - hand.number;
                case 60: return run(hand, up, CATCHES, x, deeper) ^ 5;
                case 70: return run(hand, up, THROWS, x, deeper) * 2;
                case 71: return run(hand, up, PICKS, x - hand.a, deeper);
                default: return 0;
            }
        }

        private static int kindWithBody(int from, int act) {
            int kind = from;
            for (int step = 0; step < KINDS && kind >= 0 && kind < KINDS; step++) {
                if (BODIES[act * KINDS + kind] != 0) {
                    return kind;
                }
                kind = ABOVE[kind];
            }
            return NONE;
        }

        private void note(int body) {
            if (ran < KEPT) {
                bodies[ran] = body;
            }
            ran++;
        }
    }

    /** Reads a game's text over a draft of the table; faultAt is NONE while all of it can stand. */
    private static final class Reader {
        private static final int HAND_ITEM = 0;
        private static final int STONE_ITEM = 1;
        private static final int UP_ITEM = 2;
        private static final int STAGE_ITEM = 3;
        private static final int TURN_ITEM = 4;
        private static final int ITEMS = 5;

        int faultAt = NONE;
        private int at = 0;
        /** Where the latest number's first digit stands. */
        private int numberAt = 0;

        /** How many items were read; the draft is of no use behind a fault. */
        int read(Shelf text, Table draft) {
            faultAt = NONE;
            at = 0;
            for (int items = 1; items <= LONGEST; items++) {
                readItem(text, draft);
                if (faultAt != NONE || at >= text.length) {
                    return items;
                }
                take(text, ';');
                if (faultAt != NONE) {
                    return items;
                }
            }
            return 0;
        }

        private void readItem(Shelf text, Table draft) {
            int wordAt = at;
            int item = readWord(text);
            if (item == HAND_ITEM && !draft.hasRoom()) {
                faultAt = wordAt;
            }
            if (faultAt != NONE) {
                return;
            }
            switch (item) {
                case HAND_ITEM: readHand(text, draft); break;
                case STONE_ITEM: readStone(text, draft); break;
                case UP_ITEM: readUp(text, draft); break;
                case STAGE_ITEM: readStage(text, draft); break;
                default: readTurn(text, draft); break;
            }
        }

        private void readHand(Shelf text, Table draft) {
            int kind = readNumber(text, 0, KINDS - 1);
            int a = readNumber(text, 0, HIGHEST_A);
            if (faultAt == NONE) {
                draft.addHand(kind, a);
            }
        }

        private void readStone(Shelf text, Table draft) {
            int stone = readNumber(text, 0, STONES - 1);
            int cell = readNumber(text, 0, CELLS - 1);
            if (faultAt != NONE) {
                return;
            }
            if (draft.isFreeFor(stone, cell)) {
                draft.cells[stone] = cell;
            } else {
                faultAt = numberAt;
            }
        }

        private void readUp(Shelf text, Table draft) {
            int stone = readNumber(text, 0, STONES - 1);
            if (faultAt == NONE) {
                draft.cells[stone] = NONE;
            }
        }

        private void readStage(Shelf text, Table draft) {
            Hand hand = draft.handAt(readNumber(text, 0, draft.count - 1));
            int stage = readNumber(text, 1, STAGES);
            if (faultAt == NONE && hand != null) {
                hand.level = stage;
            }
        }

        private void readTurn(Shelf text, Table draft) {
            int hand = readNumber(text, 0, draft.count - 1);
            if (faultAt == NONE) {
                draft.whose = hand;
            }
        }

        /** The item whose word stands here; else the fault is where the longest beginning of one ends. */
        private int readWord(Shelf text) {
            int longest = 0;
            for (int item = 0; item < ITEMS; item++) {
                String word = wordOf(item);
                int same = sameSigns(text, word);
                if (same == word.length()) {
                    at += same;
                    return item;
                }
                longest = Math.max(longest, same);
            }
            faultAt = at + longest;
            return NONE;
        }

        private int sameSigns(Shelf text, String word) {
            int same = 0;
            while (same < word.length() && text.intAt(at + same) == word.charAt(same)) {
                same++;
            }
            return same;
        }

        private static String wordOf(int item) {
            switch (item) {
                case HAND_ITEM: return "hand";
                case STONE_ITEM: return "stone";
                case UP_ITEM: return "up";
                case STAGE_ITEM: return "stage";
                default: return "turn";
            }
        }

        /** A blank and a number; behind a fault nothing more is read. */
        private int readNumber(Shelf text, int least, int most) {
            take(text, ' ');
            if (faultAt != NONE) {
                return NONE;
            }
            numberAt = at;
            int number = 0;
            for (int digits = 0; digits < 2 && isDigit(text.intAt(at)); digits++) {
                number = 10 * number + text.intAt(at) - '0';
                at++;
            }
            if (at == numberAt || number < least || number > most) {
                faultAt = numberAt;
            }
            return number;
        }

        private void take(Shelf text, char sign) {
            if (faultAt != NONE) {
                return;
            }
            if (text.intAt(at) == sign) {
                at++;
            } else {
                faultAt = at;
            }
        }

        private static boolean isDigit(int sign) {
            return sign >= '0' && sign <= '9';
        }
    }
}
