import java.lang.reflect.Constructor;
import java.lang.reflect.Field;
import java.lang.reflect.Method;
import java.lang.reflect.Modifier;
import java.nio.file.Files;
import java.nio.file.Path;
import java.util.Set;
import java.util.TreeSet;
import java.util.regex.Matcher;
import java.util.regex.Pattern;

/** The public face of the document and no other, and what LANGUAGE.md rules out of the source. */
public final class FaceTest {
    private static final String[] FACE = {
        "int row(int, int, int)", "int set(int, int, long)", "int copy(int, int, int, int, int)",
        "long element(int, int)", "int show(int, int)", "int holds(int)", "int says(int, int)",
        "int hand(int, int)", "int handOf(int, int)", "int stone(int, int)", "int stoneAt(int)",
        "int stage(int, int)", "int turn(int)", "int game(int)", "int fault()", "int way(int)",
        "int odds(int, int, int)", "int high(int, int, int)", "int chance(int, int)", "int plan(int, int)",
        "int bestStage(int)", "int bestHand(int)", "int keep(int)", "int first(int, int, int)",
        "int turns(int, int)", "long alike()", "int lying(int)", "int judge(int, int, int)",
        "int told(int, int, int)", "int toss(int, int)", "int throwDown(int)", "int plays(int)",
        "int seed(int)", "int act(int, int, int)", "int trace(int)", "int image()", "int restore()",
        "int status(int)",
    };

    public static void main(String[] args) throws Exception {
        Due due = new Due("FaceTest");
        face(due);
        hiddenMembers(due);
        source(due);
        due.end();
    }

    private static void face(Due due) throws Exception {
        Set<String> want = new TreeSet<>(Set.of(FACE));
        Set<String> got = new TreeSet<>();
        for (Method m : FiveStones.class.getDeclaredMethods()) {
            if (!Modifier.isPrivate(m.getModifiers()) && !m.isSynthetic()) {
                got.add(told(m));
            }
        }
        due.is("methods " + got, got.equals(want) ? 1 : 0, 1);
        due.is("final", Modifier.isFinal(FiveStones.class.getModifiers()) ? 1 : 0, 1);
        Constructor<?>[] made = FiveStones.class.getDeclaredConstructors();
        due.is("constructors", made.length, 1);
        due.is("its parameters", made[0].getParameterCount(), 0);
        due.is("NONE", FiveStones.class.getField("NONE").getInt(null), -1);
    }

    private static String told(Method m) {
        StringBuilder text = new StringBuilder(m.getReturnType().getName() + " " + m.getName() + "(");
        for (Class<?> type : m.getParameterTypes()) {
            text.append(text.charAt(text.length() - 1) == '(' ? "" : ", ").append(type.getName());
        }
        return text.append(")").toString();
    }

    private static void hiddenMembers(Due due) {
        Set<String> open = new TreeSet<>();
        Set<String> hidden = new TreeSet<>();
        for (Method m : FiveStones.class.getDeclaredMethods()) {
            (Modifier.isPublic(m.getModifiers()) ? open : hidden).add(m.getName());
        }
        for (Class<?> inside : FiveStones.class.getDeclaredClasses()) {
            due.is(inside + " is static", Modifier.isStatic(inside.getModifiers()) ? 1 : 0, 1);
            for (Method m : inside.getDeclaredMethods()) {
                hidden.add(m.getName());
            }
        }
        hidden.retainAll(open);
        due.is("hidden methods with a public name " + hidden, hidden.size(), 0);
        for (Field f : FiveStones.class.getDeclaredFields()) {
            boolean fine = Modifier.isPrivate(f.getModifiers()) || f.getName().equals("NONE");
            due.is("field " + f.getName() + " is private", fine ? 1 : 0, 1);
        }
        due.is("at most twelve classes", FiveStones.class.getDeclaredClasses().length < 12 ? 1 : 0, 1);
    }

    private static void source(Due due) throws Exception {
        String text = Files.readString(Path.of("src/main/java/FiveStones.java"));
        String code = text.replaceAll("(?s)/\\*.*?\\*/", " ").replaceAll("//[^\n]*", " ");
        String[] ruledOut = {
            "throw", "throws", "try", "catch", "finally", "synchronized", "assert", "package", "protected",
            "Object", "Exception", "double", "float", "hashCode", "Random", "Thread", "Exact",
        };
        for (String word : ruledOut) {
            Matcher found = Pattern.compile("\\b\\w*" + word + "\\b").matcher(code);
            boolean there = false;
            while (found.find()) {
                there |= found.group().equals(word) || word.equals("Exact") || word.equals("Exception");
            }
            due.is("the word " + word, there ? 1 : 0, 0);
        }
        due.is("a lambda or method reference", code.contains("->") || code.contains("::") ? 1 : 0, 0);
        Matcher imports = Pattern.compile("import ([\\w.]+);").matcher(code);
        while (imports.find()) {
            due.is("import " + imports.group(1), imports.group(1).equals("java.util.Arrays") ? 1 : 0, 1);
        }
        for (int i = 0; i < text.length(); i++) {
            if (text.charAt(i) > 126) {
                due.is("sign at " + i, text.charAt(i), 0);
            }
        }
    }
}
