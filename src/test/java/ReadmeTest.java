import java.io.IOException;
import java.lang.reflect.Method;
import java.lang.reflect.Modifier;
import java.net.URL;
import java.net.URLClassLoader;
import java.nio.file.Files;
import java.nio.file.Path;
import java.util.ArrayList;
import java.util.Comparator;
import java.util.List;
import java.util.Map;
import java.util.TreeSet;
import java.util.regex.Matcher;
import java.util.regex.Pattern;
import java.util.stream.Collectors;
import java.util.stream.Stream;
import javax.tools.ToolProvider;

/** What README.md shows: its Java compiles, its answers are those of the class, its calls and tests are those there are. */
public final class ReadmeTest {
    private static final Pattern BLOCK = Pattern.compile("(?s)\n```java\n(.*?)\n```\n");
    private static final Pattern ANSWERED = Pattern.compile("((?:x\\.\\w+|tell)\\(.*\\)); +// (-?\\d+|BAD|STATE|FULL|NONE)(?:: .+)?");
    private static final Pattern ROW = Pattern.compile("(?m)^\\| `(\\w+)\\((.*?)\\)` \\|");
    private static final Pattern TEST = Pattern.compile("`(\\w+Test)`");
    private static final Map<String, Integer> NAMES = Map.of(
        "BAD", QuietPairs.BAD, "STATE", QuietPairs.STATE, "FULL", QuietPairs.FULL, "NONE", QuietPairs.NONE);
    private static final Due due = new Due("ReadmeTest");

    private static final List<String> calls = new ArrayList<>();
    private static final List<Integer> shown = new ArrayList<>();

    public static void main(String[] args) throws Exception {
        String page = Files.readString(Path.of("README.md"));
        answers(program(page));
        names(page);
        face(page);
        tests(page);
        due.ends();
    }

    /** A class of all blocks: one that begins with "static" is a method of it, any other is run. */
    private static String program(String page) {
        StringBuilder methods = new StringBuilder();
        StringBuilder run = new StringBuilder();
        Matcher block = BLOCK.matcher(page);
        while (block.find()) {
            if (block.group(1).startsWith("static ")) {
                methods.append(block.group(1)).append('\n');
            } else {
                run.append("{\n").append(statements(block.group(1))).append("}\n");
            }
        }
        return "public final class Shown {\n" + methods + "public static void run(java.util.List<Integer> answers) {\n" + run + "}\n}\n";
    }

    private static String statements(String block) {
        StringBuilder code = new StringBuilder();
        for (String line : block.split("\n")) {
            Matcher m = ANSWERED.matcher(line);
            if (m.matches()) {
                calls.add(m.group(1));
                shown.add(NAMES.containsKey(m.group(2)) ? NAMES.get(m.group(2)) : Integer.valueOf(m.group(2)));
                code.append("answers.add(").append(m.group(1)).append(");\n");
            } else {
                due.is("'" + line + "' is the making of an object, or shows an answer", line, "QuietPairs x = new QuietPairs();");
                code.append(line).append('\n');
            }
        }
        return code.toString();
    }

    private static void answers(String program) throws Exception {
        Path folder = Files.createTempDirectory("shown");
        try {
            Path file = Files.writeString(folder.resolve("Shown.java"), program);
            int failed = ToolProvider.getSystemJavaCompiler().run(null, null, null,
                "-cp", System.getProperty("java.class.path"), "-d", folder.toString(), file.toString());
            due.is("javac of what is shown", failed, 0);
            if (failed == 0) {
                compares(folder);
            }
        } finally {
            removes(folder);
        }
    }

    private static void compares(Path folder) throws Exception {
        List<Integer> answers = new ArrayList<>();
        try (URLClassLoader loader = new URLClassLoader(new URL[] {folder.toUri().toURL()})) {
            loader.loadClass("Shown").getMethod("run", List.class).invoke(null, answers);
        }
        due.is("answers", answers.size(), shown.size());
        for (int k = 0; k < answers.size(); k++) {
            due.is("(told by README.md as " + shown.get(k) + ") " + calls.get(k), shown.get(k), answers.get(k));
        }
    }

    private static void removes(Path folder) throws IOException {
        try (Stream<Path> all = Files.walk(folder)) {
            for (Path path : all.sorted(Comparator.reverseOrder()).collect(Collectors.toList())) {
                Files.delete(path);
            }
        }
    }

    private static void names(String page) {
        for (Map.Entry<String, Integer> name : NAMES.entrySet()) {
            String row = "| `" + name.getKey() + "` | " + name.getValue() + " |";
            due.is("the row " + row, page.contains(row) ? 1 : 0, 1);
        }
    }

    /** Each call of the face stands in the table with so many parameters, and is shown at work; no other does. */
    private static void face(String page) {
        TreeSet<String> face = new TreeSet<>();
        for (Method m : QuietPairs.class.getDeclaredMethods()) {
            if (Modifier.isPublic(m.getModifiers())) {
                face.add(m.getName() + " " + m.getParameterCount());
                boolean used = calls.stream().anyMatch(call -> call.startsWith("x." + m.getName() + "("));
                due.is(m.getName() + " is shown at work", used ? 1 : 0, 1);
            }
        }
        TreeSet<String> rows = new TreeSet<>();
        Matcher row = ROW.matcher(page);
        while (row.find()) {
            int parameters = row.group(2).isEmpty() ? 0 : row.group(2).split(", ").length;
            rows.add(row.group(1) + " " + parameters);
        }
        due.is("the table's calls", rows.toString(), face.toString());
    }

    private static void tests(String page) throws IOException {
        TreeSet<String> told = new TreeSet<>();
        Matcher test = TEST.matcher(page);
        while (test.find()) {
            told.add(test.group(1));
        }
        TreeSet<String> there = new TreeSet<>();
        try (Stream<Path> all = Files.list(Path.of("src/test/java"))) {
            all.map(path -> path.getFileName().toString()).filter(name -> name.endsWith("Test.java"))
                .forEach(name -> there.add(name.substring(0, name.length() - ".java".length())));
        }
        due.is("tests that README.md tells of", told.toString(), there.toString());
        due.is("README.md says how to run them", page.contains("```sh\n.ci/run\n```") ? 1 : 0, 1);
    }
}
