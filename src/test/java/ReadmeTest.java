import java.lang.reflect.Method;
import java.lang.reflect.Modifier;
import java.nio.file.Files;
import java.nio.file.Path;
import java.util.regex.Matcher;
import java.util.regex.Pattern;

/** What README.md says holds: its examples answer as told, and it has every call and every test. */
public final class ReadmeTest {
    private static final Due DUE = new Due("ReadmeTest");

    public static void main(String[] args) throws Exception {
        String page = Files.readString(Path.of("README.md"));
        examples(page);
        everyCall(page);
        everyTest(page);
        refusesNothing();
        tenLower();
        DUE.end();
    }

    /** The line stands on the page, and what it answers is what the page tells behind it. */
    private static int line(String page, String line, String told, int answered, int want) {
        int at = page.indexOf(line);
        DUE.holds("README has the line " + line, at >= 0);
        String rest = at < 0 ? "" : page.substring(at, page.indexOf('\n', at));
        DUE.holds("README tells '" + told + "' of " + line, rest.contains(told));
        DUE.is(line, answered, want);
        return answered;
    }

    private static void examples(String page) {
        FiveStones x = new FiveStones();
        int sure = line(page, "int sure = x.hand(3, 5);", "its number, 0", x.hand(3, 5), 0);
        line(page, "x.throwDown(1);", "come to lie: 5", x.throwDown(1), 5);
        int set = line(page, "int set = x.plan(sure, 2);", "as bits: 3", x.plan(sure, 2), 3);
        int height = line(page, "int height = x.high(sure, set, 0);", "for it: 1", x.high(sure, set, 0), 1);
        line(page, "int odds = x.odds(sure, set, height);", "of 100: 92", x.odds(sure, set, height), 92);
        line(page, "int done = x.toss(set, height);", "1 done", x.toss(set, height), 1);
        String text = "hand 0 3;stone 0 27;stone 1 26;turn 1";
        DUE.holds("README has the text", page.contains("String text = \"" + text + "\";"));
        Made.write(x, 0, text);
        line(page, "int items = x.game(0);", "// 4:", x.game(0), 4);
        line(page, "int place = x.fault();", "// -1:", x.fault(), -1);
    }

    /** Each call of the face has its place in the table of answers, with as many arguments as it takes. */
    private static void everyCall(String page) {
        String table = page.substring(page.indexOf("| call | answer |"), page.indexOf("| refusal | why |"));
        for (Method m : FiveStones.class.getDeclaredMethods()) {
            if (Modifier.isPublic(m.getModifiers())) {
                Matcher call = Pattern.compile("`" + m.getName() + "\\(([^)]*)\\)`").matcher(table);
                boolean found = call.find();
                DUE.holds("README tells the answer of " + m.getName(), found);
                String arguments = found ? call.group(1) : "";
                int count = arguments.isEmpty() ? 0 : arguments.split(",").length;
                DUE.is("arguments of " + m.getName(), count, m.getParameterCount());
            }
        }
    }

    private static void everyTest(String page) throws Exception {
        try (var files = Files.list(Path.of("src/test/java"))) {
            for (Path file : (Iterable<Path>) files::iterator) {
                String name = file.getFileName().toString().replace(".java", "");
                DUE.holds("README names " + name, Pattern.compile("\\b" + name + "\\b").matcher(page).find());
            }
        }
    }

    /** "element, holds, fault, alike, seed, act, trace, image and status refuse nothing." */
    private static void refusesNothing() {
        for (int v : new int[] {Integer.MIN_VALUE, -1, 8, 161, Integer.MAX_VALUE}) {
            FiveStones x = new FiveStones();
            x.element(v, v);
            x.holds(v);
            x.fault();
            x.alike();
            x.seed(v);
            x.act(v, v, v);
            x.trace(v);
            x.image();
            x.status(v);
            for (int r = 11; r <= 17; r++) {
                DUE.is("status(" + r + ") behind calls with " + v, x.status(r), 0);
            }
        }
    }

    /** "tell it 10 lower (-11 to -16); it is counted as -1 to -6 all the same." */
    private static void tenLower() {
        FiveStones x = new FiveStones();
        DUE.is("stone(5, 0)", x.stone(5, 0), -11);
        DUE.is("stoneAt(5)", x.stoneAt(5), -11);
        DUE.is("turns(0, 0)", x.turns(0, 0), -13);
        DUE.is("lying(3)", x.lying(3), -15);
        DUE.is("judge(0, 0, 0)", x.judge(0, 0, 0), -11);
        DUE.is("stone(0, 36)", x.stone(0, 36), -16);
        int[] want = {3, 0, 1, 0, 1, 1, 0};
        for (int r = 1; r <= 7; r++) {
            DUE.is("status(" + (10 + r) + ")", x.status(10 + r), want[r - 1]);
        }
    }
}
