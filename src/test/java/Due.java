import java.util.ArrayList;
import java.util.List;
import java.util.function.Supplier;
import java.util.function.ToLongFunction;

/** Compares answers with those that are due, and ends a test with exit code 1 if one was not. */
final class Due {
    private final String test;
    private int asked = 0;
    private int wrong = 0;

    Due(String test) {
        this.test = test;
    }

    void is(String call, long got, long want) {
        asked++;
        if (got != want) {
            wrong++;
            System.out.println(test + ": " + call + " answered " + got + ", due is " + want);
        }
    }

    /** The call is refused with this answer, counted as that refusal alone, and nothing else changes. */
    void refuses(Supplier<FiveStones> made, String call, ToLongFunction<FiveStones> what, long answer, int counted) {
        FiveStones x = made.get();
        List<Long> before = picture(x);
        long[] counts = refusals(x);
        is(call, what.applyAsLong(x), answer);
        long[] after = refusals(x);
        for (int r = 1; r <= 7; r++) {
            is(call + ", then status(" + (10 + r) + ")", after[r], counts[r] + (r == -counted ? 1 : 0));
        }
        unchanged(x, call, before);
    }

    /** The call answers so, and is neither counted as a refusal nor changes anything. */
    void asks(Supplier<FiveStones> made, String call, ToLongFunction<FiveStones> what, long answer) {
        refuses(made, call, what, answer, 0);
    }

    void end() {
        System.out.println(test + ": " + asked + " answers, " + wrong + " of them wrong");
        if (wrong != 0 || asked == 0) {
            System.exit(1);
        }
    }

    private void unchanged(FiveStones x, String call, List<Long> before) {
        List<Long> after = picture(x);
        is(call + " changes what there is: same size", after.size(), before.size());
        for (int i = 0; i < before.size() && i < after.size(); i++) {
            is(call + " changes what there is, at " + i + " of the picture", after.get(i), before.get(i));
        }
    }

    private static long[] refusals(FiveStones x) {
        long[] counts = new long[8];
        for (int r = 1; r <= 7; r++) {
            counts[r] = x.status(10 + r);
        }
        return counts;
    }

    /** All that can be asked without a refusal; of rows the first elements, to stay below 512 calls. */
    static List<Long> picture(FiveStones x) {
        List<Long> all = new ArrayList<>();
        for (int what = 0; what <= 6; what++) {
            all.add((long) x.status(what));
        }
        for (int h = 0; h < x.status(0); h++) {
            for (int what = 0; what <= 6; what++) {
                all.add((long) x.handOf(h, what));
            }
        }
        for (int k = 0; k < 5; k++) {
            all.add((long) x.stoneAt(k));
        }
        for (int s = 0; s < 8; s++) {
            all.add((long) x.holds(s));
            for (int i = 0; i < 5; i++) {
                all.add(x.element(s, i));
            }
        }
        all.add((long) x.fault());
        for (int i = 0; i < 10; i++) {
            all.add((long) x.trace(i));
        }
        return all;
    }
}
