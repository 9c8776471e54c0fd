import java.util.ArrayList;
import java.util.List;
import java.util.function.Supplier;
import java.util.function.ToLongBiFunction;
import java.util.function.ToLongFunction;

/** Compares answers with those that are due, and ends a test with exit code 1 if one was not. */
final class Due {
    private final String test;
    private int asked = 0;
    private int wrong = 0;

    Due(String test) {
        this.test = test;
    }

    void is(String call, long got, long want) {
        asked++;
        if (got != want) {
            wrong++;
            System.out.println(test + ": " + call + " answered " + got + ", due is " + want);
        }
    }

    void holds(String what, boolean so) {
        is(what, so ? 1 : 0, 1);
    }

    /** The call is refused with this answer, counted as that refusal alone, and nothing else changes. */
    void refuses(Supplier<FiveStones> made, String call, ToLongFunction<FiveStones> what, long answer, int counted) {
        FiveStones x = made.get();
        List<Long> before = picture(x);
        long[] counts = refusals(x);
        is(call, what.applyAsLong(x), answer);
        long[] after = refusals(x);
        for (int r = 1; r <= 7; r++) {
            is(call + ", then status(" + (10 + r) + ")", after[r], counts[r] + (r == -counted ? 1 : 0));
        }
        same(call + " changes what there is", picture(x), before);
        FiveStones without = made.get();
        is(call + ", then restore()", x.restore(), without.restore());
        same(call + " changes the image", picture(x), picture(without));
    }

    /** The call answers so, and is neither counted as a refusal nor changes anything. */
    void asks(Supplier<FiveStones> made, String call, ToLongFunction<FiveStones> what, long answer) {
        refuses(made, call, what, answer, 0);
    }

    /** The numbers from least to most may be, and none on either side; '%' in the call stands for the number. */
    void range(Supplier<FiveStones> made, String call, ToLongBiFunction<FiveStones, Integer> what,
            int least, int most, int answer) {
        notBelow(made, call, what, least, answer);
        notAbove(made, call, what, most, answer);
        if (least <= most) {
            allows(made, call, what, least);
            allows(made, call, what, most);
        }
    }

    void notBelow(Supplier<FiveStones> made, String call, ToLongBiFunction<FiveStones, Integer> what,
            int least, int answer) {
        for (int v : new int[] {least - 1, Integer.MIN_VALUE}) {
            refuses(made, call.replace("%", "" + v), x -> what.applyAsLong(x, v), answer, countedAs(answer));
        }
    }

    void notAbove(Supplier<FiveStones> made, String call, ToLongBiFunction<FiveStones, Integer> what,
            int most, int answer) {
        for (int v : new int[] {most + 1, Integer.MAX_VALUE}) {
            refuses(made, call.replace("%", "" + v), x -> what.applyAsLong(x, v), answer, countedAs(answer));
        }
    }

    /** The call with this number is not refused. */
    void allows(Supplier<FiveStones> made, String call, ToLongBiFunction<FiveStones, Integer> what, int v) {
        FiveStones x = made.get();
        long[] counts = refusals(x);
        what.applyAsLong(x, v);
        long[] after = refusals(x);
        for (int r = 1; r <= 7; r++) {
            is(call.replace("%", "" + v) + " is counted as a refusal, -" + r, after[r], counts[r]);
        }
    }

    void same(String what, List<Long> got, List<Long> want) {
        is(what + ": the picture's size", got.size(), want.size());
        for (int i = 0; i < got.size() && i < want.size(); i++) {
            is(what + ", at " + i + " of the picture", got.get(i), want.get(i));
        }
    }

    void end() {
        System.out.println(test + ": " + asked + " answers, " + wrong + " of them wrong");
        if (wrong != 0 || asked == 0) {
            System.exit(1);
        }
    }

    private static int countedAs(int answer) {
        return answer < -10 ? answer + 10 : answer;
    }

    private static long[] refusals(FiveStones x) {
        long[] counts = new long[8];
        for (int r = 1; r <= 7; r++) {
            counts[r] = x.status(10 + r);
        }
        return counts;
    }

    /** All that can be asked without a refusal; of rows the first and last elements, to stay below 512 calls. */
    static List<Long> picture(FiveStones x) {
        List<Long> all = new ArrayList<>();
        for (int what = 0; what <= 6; what++) {
            all.add((long) x.status(what));
        }
        for (int h = 0; h < x.status(0); h++) {
            for (int what = 0; what <= 6; what++) {
                all.add((long) x.handOf(h, what));
            }
        }
        for (int k = 0; k < 5; k++) {
            all.add((long) x.stoneAt(k));
        }
        for (int s = 0; s < 8; s++) {
            all.add((long) x.holds(s));
            for (int i : new int[] {0, 1, 2, 4, 158, 159}) {
                all.add(x.element(s, i));
            }
        }
        all.add((long) x.fault());
        for (int i = 0; i < 10; i++) {
            all.add((long) x.trace(i));
        }
        return all;
    }
}
