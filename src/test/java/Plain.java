import java.util.ArrayList;
import java.util.List;

/** The terms of the document done once more, in the plainest way: all orders, all sets, all shifts. */
final class Plain {
    final int[] cells;
    final int kind;
    final int a;
    final int tosses;

    Plain(int[] cells, int kind, int a, int tosses) {
        this.cells = cells;
        this.kind = kind;
        this.a = a;
        this.tosses = tosses;
    }

    static int far(int p, int q) {
        return Math.abs(p / 6 - q / 6) + Math.abs(p % 6 - q % 6);
    }

    int lie() {
        int bits = 0;
        for (int k = 0; k < 5; k++) {
            bits += cells[k] >= 0 ? 1 << k : 0;
        }
        return bits;
    }

    int way(int set) {
        return wayOn(33, set);
    }

    private int wayOn(int from, int set) {
        int least = set == 0 ? far(from, 33) : 1000;
        for (int k = 0; k < 5; k++) {
            if ((set & 1 << k) != 0) {
                least = Math.min(least, far(from, cells[k]) + wayOn(cells[k], set - (1 << k)));
            }
        }
        return least;
    }

    int slip() {
        return kind == 3 ? 2 : kind == 5 ? 5 : kind == 4 || kind == 6 ? 3 + tosses / 10 : 3;
    }

    int odds(int set, int lie, int height) {
        int time = 4 * height + (kind == 2 || kind == 3 ? a : kind == 6 ? -a : 0);
        int most = kind == 1 || kind == 5 ? a % 3 + 1 : 4;
        if (set == 0 || way(set) > time || Integer.bitCount(set) > most) {
            return 0;
        }
        int touched = 0;
        for (int k = 0; k < 5; k++) {
            boolean near = false;
            for (int other = 0; other < 5; other++) {
                near |= (set & 1 << other) != 0 && (lie & ~set & 1 << k) != 0 && far(cells[k], cells[other]) == 1;
            }
            touched += near ? 1 : 0;
        }
        return Math.max(0, 100 - slip() * height - 6 * touched);
    }

    int high(int set, int lie) {
        int best = 1;
        for (int height = 2; height <= 9; height++) {
            if (odds(set, lie, height) > odds(set, lie, best)) {
                best = height;
            }
        }
        return best;
    }

    /** The sets that may be next, with what is left over told apart from the sets of k by a flag. */
    List<Integer> nexts(int lie, int k, int leftOver) {
        List<Integer> all = new ArrayList<>();
        for (int set = 1; set < 32; set++) {
            int size = Integer.bitCount(set);
            boolean more = Integer.bitCount(lie) - leftOver >= k;
            if ((set & ~lie) == 0 && (size == k && more || size == leftOver)) {
                all.add(set);
            }
        }
        return all;
    }

    /** The chance, and the plan in the second place. */
    int[] chance(int lie, int k, int leftOver) {
        if (lie == 0) {
            return new int[] {1000000, 0};
        }
        int[] best = {-1, 0};
        for (int set : nexts(lie, k, leftOver)) {
            boolean over = Integer.bitCount(set) == leftOver;
            int behind = chance(lie & ~set, k, over ? 0 : leftOver)[0];
            int chance = behind * odds(set, lie, high(set, lie)) / 100;
            if (chance > best[0]) {
                best = new int[] {chance, set};
            }
        }
        return best;
    }

    int[] chance(int k) {
        return chance(lie(), k, Integer.bitCount(lie()) % k);
    }

    int keep() {
        int best = 0;
        int most = -1;
        for (int k = 0; k <= 5; k++) {
            int worth = k * Math.max(0, 100 - slip() * k * k);
            if (worth > most) {
                most = worth;
                best = k;
            }
        }
        return best;
    }

    long alike() {
        if (lie() == 0) {
            return 0;
        }
        long least = Long.MAX_VALUE;
        for (int down = -5; down <= 5; down++) {
            for (int right = -5; right <= 5; right++) {
                long bits = 0;
                boolean stays = true;
                for (int cell : cells) {
                    int row = cell / 6 + down;
                    int column = cell % 6 + right;
                    if (cell >= 0) {
                        stays &= row >= 0 && row < 6 && column >= 0 && column < 6;
                        bits |= stays ? 1L << (6 * row + column) : 0;
                    }
                }
                least = stays ? Math.min(least, bits) : least;
            }
        }
        return least;
    }

    int lying(int what) {
        int spread = 0;
        int near = 0;
        int lonely = -1;
        int loneliest = -1;
        for (int k = 0; k < 5; k++) {
            int nearest = 1000;
            for (int other = 0; other < 5; other++) {
                if (other != k && cells[k] >= 0 && cells[other] >= 0) {
                    int far = far(cells[k], cells[other]);
                    spread = Math.max(spread, far);
                    near += far == 1 ? 1 : 0;
                    nearest = Math.min(nearest, far);
                }
            }
            if (nearest < 1000 && nearest > loneliest) {
                loneliest = nearest;
                lonely = k;
            }
        }
        return what == 0 ? spread : what == 1 ? near / 2 : lonely;
    }
}
