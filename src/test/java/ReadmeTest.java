import java.lang.reflect.Method;
import java.lang.reflect.Modifier;
import java.net.URL;
import java.net.URLClassLoader;
import java.nio.file.Files;
import java.nio.file.Path;
import java.util.ArrayList;
import java.util.List;
import java.util.Set;
import java.util.TreeSet;
import java.util.regex.Matcher;
import java.util.regex.Pattern;
import java.util.stream.Stream;
import javax.tools.ToolProvider;

/**
 * README.md's examples answer as README.md says: each block of Java is compiled as it stands, but that a call
 * with its answer behind it ('// 3: why' or '// NONE: why') is asked and held against that answer.
 */
public final class ReadmeTest {
    private static final Pattern CALL = Pattern.compile("(bench\\.(\\w+)\\(.*\\)); *// (-?\\d+|[A-Z]+)(: .+)?");
    private static final String MADE = "ReadmeExamples";

    public static void main(String[] args) throws Exception {
        Check c = new Check();
        Path readme = Path.of(System.getProperty("readme", "README.md")).toAbsolutePath();
        List<String> lines = Files.readAllLines(readme);
        Set<String> shown = new TreeSet<>();
        ask(c, source(c, lines, shown));
        showsEveryCall(c, shown);
        namesEveryTest(c, String.join("\n", lines), readme.resolveSibling("src/test/java"));
        c.end("ReadmeTest");
    }

    private static String source(Check c, List<String> lines, Set<String> shown) {
        StringBuilder made = new StringBuilder("public final class " + MADE + " {\n"
            + "public static void ask(java.util.List<Object[]> rows) {\n");
        boolean inside = false;
        int blocks = 0;
        for (int i = 0; i < lines.size(); i++) {
            String line = lines.get(i).strip();
            if (line.startsWith("```")) {
                blocks += line.equals("```java") ? 1 : 0;
                made.append(line.equals("```java") ? "{\n" : inside ? "}\n" : "");
                inside = line.equals("```java");
            } else if (inside) {
                made.append(asked(c, line, "README.md, line " + (i + 1), shown)).append('\n');
            }
        }
        c.holds("README.md has examples, each with its end", blocks > 0 && !inside);
        return made.append("}\n}\n").toString();
    }

    private static String asked(Check c, String line, String place, Set<String> shown) {
        Matcher call = CALL.matcher(line);
        if (!call.matches()) {
            c.holds(place + ": a call of bench has its answer behind it", !line.startsWith("bench."));
            return line;
        }
        shown.add(call.group(2));
        String answer = call.group(3);
        String due = Character.isUpperCase(answer.charAt(0)) ? "MachineBench." + answer : answer;
        return "rows.add(new Object[] {\"" + place + "\", " + call.group(1) + ", " + due + "});";
    }

    private static void ask(Check c, String source) throws Exception {
        Path dir = Files.createTempDirectory("readme");
        Path file = dir.resolve(MADE + ".java");
        try {
            Files.writeString(file, source);
            String path = System.getProperty("java.class.path");
            int code = ToolProvider.getSystemJavaCompiler()
                .run(null, null, null, "-cp", path, "-d", dir.toString(), file.toString());
            c.due("README.md's examples compile", code, 0);
            if (code == 0) {
                answers(c, dir);
            }
        } finally {
            Files.deleteIfExists(file);
            Files.deleteIfExists(dir.resolve(MADE + ".class"));
            Files.deleteIfExists(dir);
        }
    }

    private static void answers(Check c, Path dir) throws Exception {
        List<Object[]> rows = new ArrayList<>();
        try (URLClassLoader loader = new URLClassLoader(new URL[] {dir.toUri().toURL()})) {
            loader.loadClass(MADE).getMethod("ask", List.class).invoke(null, rows);
        }
        for (Object[] row : rows) {
            c.due((String) row[0], (Integer) row[1], (Integer) row[2]);
        }
    }

    private static void showsEveryCall(Check c, Set<String> shown) {
        for (Method m : MachineBench.class.getDeclaredMethods()) {
            if (Modifier.isPublic(m.getModifiers())) {
                c.holds("README.md shows " + m.getName() + " with an answer", shown.contains(m.getName()));
            }
        }
    }

    private static void namesEveryTest(Check c, String text, Path tests) throws Exception {
        try (Stream<Path> files = Files.list(tests)) {
            for (Path file : (Iterable<Path>) files.sorted()::iterator) {
                String name = file.getFileName().toString().replace(".java", "");
                c.holds("README.md names " + name, text.contains("`" + name + "`"));
            }
        }
    }
}
