import java.util.List;

/** Promises 37 to 39: image, restore, status. */
public final class ImageTest {
    private static final Due DUE = new Due("ImageTest");

    public static void main(String[] args) {
        images();
        shelvesWithHands();
        outsideOfIt();
        counts();
        DUE.end();
    }

    private static void images() {
        FiveStones x = Made.usual();
        x.seed(77);
        x.toss(1, 1);
        x.stone(0, 1);
        x.stone(3, 4);
        List<Long> before = Due.picture(x);
        DUE.is("image()", x.image(), 3);
        x.hand(4, 4);
        x.stage(0, 3);
        x.plays(5);
        x.turn(3);
        x.stone(0, 0);
        DUE.is("restore()", x.restore(), 3);
        DUE.is("all as it was", Due.picture(x).equals(before) ? 1 : 0, 1);
        x.plays(20);
        DUE.is("restore() again", x.restore(), 3);
        DUE.is("all as it was again", Due.picture(x).equals(before) ? 1 : 0, 1);
        DUE.is("hand(2, 5) behind it", x.hand(2, 5), 3);
        int[] want = {2, 5, 1, 0, 0};
        for (int what = 0; what < want.length; what++) {
            DUE.is("handOf(3, " + what + ") is new", x.handOf(3, what), want[what]);
        }
        FiveStones empty = Made.fresh();
        empty.image();
        empty.hand(0, 0);
        empty.hand(0, 0);
        empty.turn(1);
        empty.plays(3);
        DUE.is("restore() to no hands", empty.restore(), 0);
        DUE.is("status(2)", empty.status(2), -1);
        DUE.is("status(4)", empty.status(4), 0);
        DUE.is("status(5)", empty.status(5), 1);
        empty.hand(0, 0);
        DUE.is("status(2) with one", empty.status(2), 0);
    }

    private static void shelvesWithHands() {
        FiveStones x = Made.usual();
        x.image();
        x.hand(0, 0);
        x.show(5, 3);
        x.show(6, 1);
        x.show(0, 3);
        x.set(1, 0, 99);
        DUE.is("restore()", x.restore(), 3);
        DUE.is("a hand that is not", x.holds(5), -1);
        DUE.is("a hand that is not, over a row", x.holds(0), -1);
        DUE.is("a hand that is", x.holds(6), 1);
        DUE.is("a hand that was there", x.holds(3), 2);
        DUE.is("a row stays as it is", x.element(1, 0), 99);
    }

    private static void outsideOfIt() {
        FiveStones x = Made.usual();
        x.image();
        x.game(0);
        x.act(0, 2, 5);
        DUE.is("restore()", x.restore(), 3);
        DUE.is("the fault stays", x.fault(), 0);
        DUE.is("the trace stays", x.trace(0), 12);
        DUE.is("the bodies stay", x.status(6), 4);
        DUE.is("refusals stay", x.status(16), 1);
        x.image();
        DUE.is("the image outlives restore()", x.restore(), 3);
    }

    private static void counts() {
        FiveStones x = Made.usual();
        DUE.is("status(0)", x.status(0), 3);
        DUE.is("status(1)", x.status(1), 31);
        x.stone(1, -1);
        DUE.is("status(1)", x.status(1), 29);
        DUE.is("status(2)", x.status(2), 1);
        x.seed(0);
        x.toss(1, 9);
        x.stone(0, 0);
        x.toss(1, 1);
        DUE.is("status(2) behind a fault", x.status(2), 2);
        x.stone(0, 0);
        x.toss(1, 1);
        DUE.is("status(2) behind the last", x.status(2), 0);
        DUE.is("status(3)", x.status(3), 3);
        DUE.is("status(4)", x.status(4), 2);
        int[] none = {-1, 7, 8, 9, 10, 18, 100, -7, Integer.MIN_VALUE, Integer.MAX_VALUE};
        for (int what : none) {
            DUE.is("status(" + what + ")", x.status(what), -1);
        }
    }
}
