import java.io.IOException;
import java.lang.reflect.Constructor;
import java.lang.reflect.Field;
import java.lang.reflect.Method;
import java.lang.reflect.Modifier;
import java.nio.charset.StandardCharsets;
import java.nio.file.Files;
import java.nio.file.Path;
import java.util.Map;
import java.util.TreeMap;
import java.util.regex.Matcher;
import java.util.regex.Pattern;

/** The public face, and those rules of LANGUAGE.md that can be seen by reflection or in the file's letters. */
public final class FaceTest {
    private static final Map<String, Integer> FACE = new TreeMap<>(Map.ofEntries(
        Map.entry("type", 1), Map.entry("clear", 0), Map.entry("tells", 0), Map.entry("joins", 1), Map.entry("leaves", 1),
        Map.entry("drifts", 3), Map.entry("strikes", 3), Map.entry("trains", 0), Map.entry("fills", 1), Map.entry("undo", 0),
        Map.entry("pair", 3), Map.entry("line", 2), Map.entry("tone", 3), Map.entry("send", 6), Map.entry("maker", 2),
        Map.entry("clean", 0), Map.entry("hurt", 1), Map.entry("settled", 1), Map.entry("tries", 3), Map.entry("forget", 0),
        Map.entry("which", 1), Map.entry("ask", 0), Map.entry("keep", 1), Map.entry("back", 1), Map.entry("count", 1)));
    private static final Due due = new Due("FaceTest");

    public static void main(String[] args) throws IOException {
        constants();
        members();
        inside();
        letters();
        anyNumbers();
        due.ends();
    }

    private static void constants() {
        due.is("BAD", QuietPairs.BAD, -1);
        due.is("STATE", QuietPairs.STATE, -2);
        due.is("FULL", QuietPairs.FULL, -3);
        due.is("NONE", QuietPairs.NONE, -9);
    }

    private static void members() {
        due.is("public and final", QuietPairs.class.getModifiers(), Modifier.PUBLIC | Modifier.FINAL);
        int seen = 0;
        for (Method m : QuietPairs.class.getDeclaredMethods()) {
            Integer parameters = FACE.get(m.getName());
            boolean isPublic = Modifier.isPublic(m.getModifiers());
            due.is(m.getName() + " is of the face or private", parameters != null || Modifier.isPrivate(m.getModifiers()) ? 1 : 0, 1);
            due.is(m.getName() + " is public just if it is of the face", isPublic ? 1 : 0, parameters != null ? 1 : 0);
            if (parameters != null) {
                seen++;
                due.is(m.getName() + " takes", m.getParameterCount(), parameters);
                due.is(m.getName() + " answers an int", m.getReturnType() == int.class ? 1 : 0, 1);
            }
        }
        due.is("methods of the face", seen, FACE.size());
        for (Field f : QuietPairs.class.getDeclaredFields()) {
            boolean constant = f.getName().matches("BAD|STATE|FULL|NONE");
            due.is("field " + f.getName(), Modifier.isPublic(f.getModifiers()) ? 1 : 0, constant ? 1 : 0);
            due.is("field " + f.getName() + " of the face or private", constant || Modifier.isPrivate(f.getModifiers()) ? 1 : 0, 1);
        }
        Constructor<?>[] made = QuietPairs.class.getDeclaredConstructors();
        due.is("constructors", made.length, 1);
        due.is("its parameters", made[0].getParameterCount(), 0);
    }

    private static void inside() {
        due.is("some twelve classes", QuietPairs.class.getDeclaredClasses().length <= 11 ? 1 : 0, 1);
        for (Class<?> c : QuietPairs.class.getDeclaredClasses()) {
            due.is(c.getName() + " is static", Modifier.isStatic(c.getModifiers()) ? 1 : 0, 1);
            due.is(c.getName() + " is not public", c.getModifiers() & (Modifier.PUBLIC | Modifier.PROTECTED), 0);
            for (Method m : c.getDeclaredMethods()) {
                due.is(c.getName() + "." + m.getName() + " has no name of the face", FACE.containsKey(m.getName()) ? 1 : 0, 0);
                due.is(c.getName() + "." + m.getName() + " takes seven at most", m.getParameterCount() <= 7 ? 1 : 0, 1);
            }
            for (Field f : c.getDeclaredFields()) {
                boolean fine = !Modifier.isStatic(f.getModifiers()) || Modifier.isFinal(f.getModifiers());
                due.is(c.getName() + "." + f.getName() + " is final if static", fine ? 1 : 0, 1);
            }
        }
    }

    private static void letters() throws IOException {
        String file = Files.readString(Path.of("src/main/java/QuietPairs.java"), StandardCharsets.UTF_8);
        due.is("only plain letters", file.chars().allMatch(c -> c == '\n' || (c >= 32 && c < 127)) ? 1 : 0, 1);
        String code = file.replaceAll("(?s)/\\*.*?\\*/", " ").replaceAll("//[^\n]*", " ");
        String[] words = {"throw", "throws", "try", "catch", "finally", "synchronized", "assert", "import", "package", "volatile", "native", "var"};
        for (String word : words) {
            Matcher m = Pattern.compile("\\b" + word + "\\b").matcher(code);
            due.is("the word " + word, m.find() ? 1 : 0, 0);
        }
        due.is("no lambda, no method reference", code.contains("->") || code.contains("::") ? 1 : 0, 0);
    }

    /** No call throws, whatever the numbers, on objects in several states. */
    private static void anyNumbers() {
        int[] n = {Integer.MIN_VALUE, -32, -1, 0, 1, 3, 4, 12, 16, 31, 32, 64, 256, Integer.MAX_VALUE};
        String[] texts = {"", "e0 1 1;e1 0 1;b0 0;m1;", "g0 1 9;g1 2 9;g2 0 9;g3 0 9;b0 12;b1 12;b2 12;b3 12;n3 2 20;"};
        int calls = 0;
        for (String text : texts) {
            for (int a : n) {
                for (int b : n) {
                    QuietPairs x = Due.made(text, 7);
                    x.trains();
                    calls += x.type(a) + x.joins(a) + x.drifts(a, b, a) + x.drifts(b, a, 1) + x.strikes(a, b, a) + x.strikes(b, 0, a);
                    calls += x.fills(a) + x.pair(a, b, 0) + x.pair(0, a, b) + x.line(a, b) + x.tone(a, b, 0) + x.tone(0, a, b);
                    calls += x.send(a, b, a, b, 0, 0) + x.send(0, 0, 0, 0, a, b) + x.send(1, 1, 1, 0, 0, a) + x.maker(a, b);
                    calls += x.hurt(a) + x.settled(a) + x.tries(a, b, 0) + x.tries(0, a, b) + x.which(a) + x.ask();
                    calls += x.keep(a) + x.back(b) + x.count(a) + x.leaves(a) + x.clean() + x.tells() + x.undo() + x.clear() + x.forget();
                }
            }
        }
        due.is("all calls came back", calls != Integer.MIN_VALUE ? 1 : 0, 1);
    }
}
