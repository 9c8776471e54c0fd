import java.util.Random;
import java.util.regex.Matcher;
import java.util.regex.Pattern;

/** Promises 15 and 16: game, fault. */
public final class GameTest {
    private static final Due DUE = new Due("GameTest");
    private static final String ITEM = "(?:(?:hand|stone|stage) [0-9]{1,2} [0-9]{1,2}|(?:up|turn) [0-9]{1,2})";
    private static final Pattern GAME = Pattern.compile(ITEM + "(?:;" + ITEM + ")*");

    public static void main(String[] args) {
        latestFault();
        told();
        faults();
        noRoom();
        lettersOfAllSorts();
        mutated();
        DUE.end();
    }

    private static void latestFault() {
        FiveStones x = Made.usual();
        DUE.is("fault() ahead of any", x.fault(), -1);
        DUE.is("game(0)", x.game(0), -6);
        DUE.is("fault()", x.fault(), 0);
        DUE.is("game(4) of no elements", x.game(4), -6);
        DUE.is("fault() of no elements", x.fault(), 0);
        Made.write(x, 0, "up 4;");
        DUE.is("game(0)", x.game(0), -6);
        DUE.is("fault()", x.fault(), 5);
        x.game(8);
        x.game(2);
        x.game(7);
        DUE.is("fault() behind refused ones that came to no row", x.fault(), 5);
        Made.write(x, 0, "up 4");
        DUE.is("game(0)", x.game(0), 1);
        DUE.is("fault() behind a good one", x.fault(), -1);
        DUE.is("status(16)", x.status(16), 3);
    }

    private static void told() {
        FiveStones x = Made.usual();
        Made.write(x, 0, "hand 6 9;stage 3 4;turn 3;up 0;stone 1 27;stone 0 05;stone 0 00;stage 01 1");
        DUE.is("game(0)", x.game(0), 8);
        DUE.is("status(0)", x.status(0), 4);
        DUE.is("handOf(3, 0)", x.handOf(3, 0), 6);
        DUE.is("handOf(3, 1)", x.handOf(3, 1), 9);
        DUE.is("handOf(3, 2)", x.handOf(3, 2), 4);
        DUE.is("handOf(1, 2)", x.handOf(1, 2), 1);
        DUE.is("status(2)", x.status(2), 3);
        DUE.is("stoneAt(0)", x.stoneAt(0), 0);
        DUE.is("stoneAt(1)", x.stoneAt(1), 27);
        DUE.is("stoneAt(2)", x.stoneAt(2), 20);
        FiveStones y = Made.usual();
        Made.write(y, 0, "hand 6 9;turn 3;up 0;stone 1 27;stone 2 27");
        java.util.List<Long> before = Due.picture(y);
        DUE.is("game(0)", y.game(0), -6);
        DUE.is("fault()", y.fault(), 40);
        before.set(before.size() - 11, 40L);
        DUE.is("all or nothing", Due.picture(y).equals(before) ? 1 : 0, 1);
    }

    private static void faults() {
        fault("", 0);
        fault("h", 1);
        fault("han", 3);
        fault("hund 0 0", 1);
        fault("st", 2);
        fault("stxne 0 0", 2);
        fault("stope 0 0", 3);
        fault("stane 0 0", 3);
        fault("Hand 0 0", 0);
        fault(" hand 0 0", 0);
        fault("hand", 4);
        fault("hand0 0", 4);
        fault("hand ", 5);
        fault("hand  0 0", 5);
        fault("hand 0", 6);
        fault("hand 0 ", 7);
        fault("hand 0;", 6);
        fault("hand 7 0", 5);
        fault("hand 7", 5);
        fault("hand 10 0", 5);
        fault("hand 006 0", 7);
        fault("hand 6 10", 7);
        fault("hand 6 010", 9);
        fault("hand 6 9 ", 8);
        fault("hand 6 9,", 8);
        fault("hand 6 9;", 9);
        fault("hand 6 9; up 0", 9);
        fault("hand 6 9;;up 0", 9);
        fault("hand -1 0", 5);
        fault("stone 5 0", 6);
        fault("stone 0 36", 8);
        fault("stone 0 26", 8);
        fault("stone 0 340", 8);
        fault("stone 0 350", 10);
        fault("stone 44 0", 6);
        fault("up 5", 3);
        fault("upx", 2);
        fault("stage 3 1", 6);
        fault("stage 0 0", 8);
        fault("stage 0 5", 8);
        fault("stage 3 9", 6);
        fault("turn 3", 5);
        fault("turn 3;hand 0 0", 5);
        fault("turn 0;turn 1;turn 2;tur", 24);
        good("turn 0", 1);
        good("stone 0 27", 1);
        good("stone 0 35;stone 1 27;stone 0 26", 3);
        good("up 0;up 0", 2);
        good("hand 0 0;turn 3;stage 3 4", 3);
        FiveStones x = Made.fresh();
        Made.write(x, 0, "turn 0");
        DUE.is("game of a turn without hands", x.game(0), -6);
        DUE.is("its fault", x.fault(), 5);
    }

    private static void fault(String text, int place) {
        FiveStones x = Made.usual();
        Made.write(x, 5, text);
        DUE.is("game '" + text + "'", x.game(5), -6);
        DUE.is("fault of '" + text + "'", x.fault(), place);
    }

    private static void good(String text, int items) {
        FiveStones x = Made.usual();
        Made.write(x, 5, text);
        DUE.is("game '" + text + "'", x.game(5), items);
        DUE.is("fault of '" + text + "'", x.fault(), -1);
    }

    private static void noRoom() {
        String[] texts = {"hand 0 0;hand 0 0", "hand 0 0;hand 9 0", "hand 0 0;hand", "hand 0 0;handy"};
        for (String text : texts) {
            fault(text, 9);
        }
        FiveStones x = Made.full();
        Made.write(x, 5, "hand 0 0");
        DUE.is("game of a fifth hand", x.game(5), -6);
        DUE.is("its fault", x.fault(), 0);
    }

    private static void lettersOfAllSorts() {
        String text = "up 0;turn 2";
        for (int sort = 0; sort < 4; sort++) {
            FiveStones x = Made.usual();
            x.row(5, sort, text.length());
            for (int i = 0; i < text.length(); i++) {
                x.set(5, i, text.charAt(i) + 0x4400000000L * i);
            }
            DUE.is("game of sort " + sort, x.game(5), 2);
            x.set(5, 3, '0' + 256);
            DUE.is("game of sort " + sort + " with a letter of 9 bits", x.game(5), sort == 0 ? 2 : -6);
        }
    }

    /** The fault by a pattern's beginnings, and by going through the numbers ahead of it. */
    private static void mutated() {
        Random random = new Random(7);
        for (int run = 0; run < 3000; run++) {
            StringBuilder text = new StringBuilder();
            int items = 1 + random.nextInt(5);
            for (int i = 0; i < items; i++) {
                text.append(i == 0 ? "" : ";").append(randomItem(random));
            }
            if (random.nextInt(2) == 0) {
                String signs = "0123456789 ;handstoneupturgx";
                text.setCharAt(random.nextInt(text.length()), signs.charAt(random.nextInt(signs.length())));
            }
            if (random.nextInt(4) == 0) {
                text.setLength(random.nextInt(text.length()));
            }
            FiveStones x = Made.usual();
            Made.write(x, 5, text.toString());
            int place = faultOf(text.toString(), 3, new int[] {27, 26, 20, 34, 14});
            int got = x.game(5);
            DUE.is("fault of '" + text + "'", x.fault(), place);
            DUE.is("game of '" + text + "'", got, place >= 0 ? -6 : text.toString().split(";").length);
        }
    }

    private static String randomItem(Random random) {
        switch (random.nextInt(6)) {
            case 0: return "hand " + random.nextInt(8) + " " + random.nextInt(11);
            case 1: return "up " + random.nextInt(6);
            case 2: return "stage " + random.nextInt(5) + " " + random.nextInt(6);
            case 3: return "turn " + random.nextInt(5);
            default: return "stone " + random.nextInt(6) + " " + random.nextInt(38);
        }
    }

    private static int faultOf(String text, int hands, int[] cells) {
        int bySigns = faultBySigns(text);
        int end = bySigns < 0 ? text.length() : bySigns;
        Matcher words = Pattern.compile("(hand|stone|stage|up|turn)(?: ([0-9]{1,2}))?(?: ([0-9]{1,2}))?")
                .matcher(text.substring(0, end));
        int count = hands;
        while (words.find()) {
            boolean isHand = words.group(1).equals("hand");
            if (isHand && count == 4) {
                return words.start();
            }
            int one = words.group(2) == null ? -1 : Integer.parseInt(words.group(2));
            int two = words.group(3) == null ? -1 : Integer.parseInt(words.group(3));
            int mostOne = isHand ? 6 : words.group(1).matches("stone|up") ? 4 : count - 1;
            if (one > mostOne) {
                return words.start(2);
            }
            boolean wrongTwo = isHand ? two > 9 : words.group(1).equals("stage") ? two == 0 || two > 4 : two > 35;
            if (words.group(1).equals("stone")) {
                for (int k = 0; k < 5 && two >= 0; k++) {
                    wrongTwo |= k != one && cells[k] == two;
                }
            }
            if (wrongTwo) {
                return words.start(3);
            }
            if (isHand && two >= 0) {
                count++;
            } else if (words.group(1).equals("stone") && two >= 0) {
                cells[one] = two;
            } else if (words.group(1).equals("up") && one >= 0) {
                cells[one] = -1;
            }
        }
        return bySigns;
    }

    private static int faultBySigns(String text) {
        for (int i = 1; i <= text.length(); i++) {
            Matcher begun = GAME.matcher(text.substring(0, i));
            if (!begun.matches() && !begun.hitEnd()) {
                return i - 1;
            }
        }
        return GAME.matcher(text).matches() ? -1 : text.length();
    }
}
