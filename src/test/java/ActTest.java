/** Promises 35 and 36, and what status tells of acts: act, trace. */
public final class ActTest {
    private static final Due DUE = new Due("ActTest");

    /** The bodies as Java has them, each telling its number as it begins. */
    static class Body {
        final int m;
        final int k;
        final StringBuilder told = new StringBuilder();

        Body(int m, int k) {
            this.m = m;
            this.k = k;
        }

        int tossing(int x) {
            told.append("10 ");
            return x + m;
        }

        int picks(int x) {
            told.append("11 ");
            return tossing(x) * 2;
        }

        int catches(int x) {
            told.append("12 ");
            return picks(x) ^ tossing(x - k);
        }
    }

    static class Small extends Body {
        Small(int m, int k) {
            super(m, k);
        }

        @Override
        int tossing(int x) {
            told.append("20 ");
            return super.tossing(x) + k;
        }
    }

    static class Quick extends Body {
        Quick(int m, int k) {
            super(m, k);
        }

        @Override
        int picks(int x) {
            told.append("30 ");
            return super.picks(x) * 3;
        }
    }

    static class Sure extends Quick {
        Sure(int m, int k) {
            super(m, k);
        }

        @Override
        int picks(int x) {
            told.append("40 ");
            return super.picks(x + 1);
        }
    }

    static class Tired extends Body {
        Tired(int m, int k) {
            super(m, k);
        }

        @Override
        int catches(int x) {
            told.append("50 ");
            return -super.catches(x);
        }

        @Override
        int tossing(int x) {
            told.append("51 ");
            return super.tossing(x) - m;
        }
    }

    static class Left extends Small {
        Left(int m, int k) {
            super(m, k);
        }

        @Override
        int catches(int x) {
            told.append("60 ");
            return super.catches(x) ^ 5;
        }
    }

    static class Cold extends Tired {
        Cold(int m, int k) {
            super(m, k);
        }

        @Override
        int tossing(int x) {
            told.append("70 ");
            return super.tossing(x) * 2;
        }

        @Override
        int picks(int x) {
            told.append("71 ");
            return super.picks(x - k);
        }
    }

    private static Body body(int kind, int m, int k) {
        switch (kind) {
            case 0: return new Body(m, k);
            case 1: return new Small(m, k);
            case 2: return new Quick(m, k);
            case 3: return new Sure(m, k);
            case 4: return new Tired(m, k);
            case 5: return new Left(m, k);
            default: return new Cold(m, k);
        }
    }

    public static void main(String[] args) {
        int[] with = {0, 1, -1, 7, 1000003, -5, Integer.MAX_VALUE, Integer.MIN_VALUE};
        for (int kind = 0; kind < 7; kind++) {
            for (int number = 0; number < 4; number++) {
                for (int x : with) {
                    compare(kind, number, (kind * 5 + number * 3) % 10, x);
                }
            }
        }
        DUE.end();
    }

    private static void compare(int kind, int number, int a, int x) {
        FiveStones stones = Made.fresh();
        for (int h = 0; h < number; h++) {
            stones.hand(0, 0);
        }
        stones.hand(kind, a);
        for (int act = 0; act < 3; act++) {
            Body body = body(kind, number, a);
            int want = act == 0 ? body.tossing(x) : act == 1 ? body.picks(x) : body.catches(x);
            String call = "act(" + number + ", " + act + ", " + x + ") of kind " + kind;
            DUE.is(call, stones.act(number, act, x), want);
            String[] numbers = body.told.toString().trim().split(" ");
            DUE.is("bodies of " + call, stones.status(6), numbers.length);
            for (int i = 0; i < 21; i++) {
                int due = i < numbers.length ? Integer.parseInt(numbers[i]) : -1;
                DUE.is("trace(" + i + ") of " + call, stones.trace(i), due);
            }
        }
        DUE.is("trace(-1)", stones.trace(-1), -1);
        DUE.is("trace(MIN)", stones.trace(Integer.MIN_VALUE), -1);
        DUE.is("trace(MAX)", stones.trace(Integer.MAX_VALUE), -1);
    }
}
