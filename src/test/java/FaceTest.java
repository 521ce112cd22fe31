import java.lang.reflect.Field;
import java.lang.reflect.Method;
import java.lang.reflect.Modifier;
import java.nio.file.Files;
import java.nio.file.Path;
import java.util.Set;
import java.util.TreeSet;
import java.util.regex.Pattern;

/** The class's face, and what of LANGUAGE.md can be seen from the text. */
public final class FaceTest {
    private static final String[] METHODS = {
        "type(long,int)", "rules(int)", "rule(int,int,int)", "ticks(int)", "world(int,int,int)",
        "sights(int,int,int)", "lots(int,int)", "play(int,int,int)", "chooses(int,int,int,int)",
        "write(int)", "tell(int,int)", "line(int,int)", "forge(int,int)", "swap(int,int)", "tear(int)",
        "give(int)", "kept(int,int)", "torn()", "differs()", "count(int)", "doing(int,int)",
        "thing(int,int,int)", "clear()", "otherwise(int)", "because()", "enough()", "sets(int)",
        "part(int)", "careful(int,int)", "saying(int,boolean,boolean)", "duty()", "broken()",
        "sheet(int,int,int)", "drop(int)", "item(int,int,int,int)", "copy(int,int,int,int,int)"};
    private static final String[] CONSTANTS = {"BAD", "NOT", "FULL", "NONE", "NULL", "CAST", "INDEX", "SIZE"};
    private static final int[] VALUES = {-1, -2, -3, -4, -11, -12, -13, -14};
    private static final String[] NOT_ALLOWED = {
        "\\bthrow\\b", "\\bcatch\\b", "\\btry\\b", "\\bfinally\\b", "\\bsynchronized\\b", "\\bassert\\b", "->", "::",
        "Exact\\(", "System\\.(?!arraycopy)", "\\bprotected\\b", "\\bRandom\\b", "\\bObject\\b", "Math\\.random", "\\bstatic \\{"};

    public static void main(String[] args) throws Exception {
        Check c = new Check();
        Set<String> face = methods(c);
        fields(c);
        classesInside(c, face);
        text(c);
        c.holds("final", Modifier.isFinal(MachineBench.class.getModifiers()));
        c.due("constructors", MachineBench.class.getDeclaredConstructors().length, 1);
        c.holds("public constructor", Modifier.isPublic(MachineBench.class.getConstructor().getModifiers()));
        c.end("FaceTest");
    }

    private static Set<String> methods(Check c) {
        Set<String> want = new TreeSet<>(Set.of(METHODS));
        Set<String> got = new TreeSet<>();
        Set<String> names = new TreeSet<>();
        for (Method m : MachineBench.class.getDeclaredMethods()) {
            if (Modifier.isPublic(m.getModifiers())) {
                got.add(signature(m));
                names.add(m.getName());
                c.holds(m + " answers an int", m.getReturnType() == int.class);
            }
        }
        c.holds("the methods are " + got, got.equals(want));
        for (Method m : MachineBench.class.getDeclaredMethods()) {
            c.holds(m + " is public, or private with a name of its own", Modifier.isPublic(m.getModifiers())
                || m.isSynthetic() || Modifier.isPrivate(m.getModifiers()) && !names.contains(m.getName()));
        }
        return names;
    }

    private static String signature(Method m) {
        StringBuilder s = new StringBuilder(m.getName()).append('(');
        for (Class<?> p : m.getParameterTypes()) {
            s.append(s.charAt(s.length() - 1) == '(' ? "" : ",").append(p.getName());
        }
        return s.append(')').toString();
    }

    private static void fields(Check c) throws Exception {
        for (int i = 0; i < CONSTANTS.length; i++) {
            Field f = MachineBench.class.getField(CONSTANTS[i]);
            c.holds(CONSTANTS[i] + " static final", Modifier.isStatic(f.getModifiers()) && Modifier.isFinal(f.getModifiers()));
            c.due(CONSTANTS[i], f.getInt(null), VALUES[i]);
        }
        int open = 0;
        for (Field f : MachineBench.class.getDeclaredFields()) {
            open += Modifier.isPrivate(f.getModifiers()) ? 0 : 1;
            c.holds(f + " is final if static", !Modifier.isStatic(f.getModifiers()) || Modifier.isFinal(f.getModifiers()));
        }
        c.due("fields that are not private", open, CONSTANTS.length);
    }

    private static void classesInside(Check c, Set<String> face) {
        Class<?>[] inside = MachineBench.class.getDeclaredClasses();
        c.holds("at most some twelve classes", inside.length <= 12);
        for (Class<?> k : inside) {
            c.holds(k + " is private and static", Modifier.isPrivate(k.getModifiers()) && Modifier.isStatic(k.getModifiers()));
            for (Method m : k.getDeclaredMethods()) {
                c.holds(m + " has a name of its own", !face.contains(m.getName()));
                c.holds(m + " takes seven at most", m.getParameterCount() <= 7);
            }
        }
    }

    private static void text(Check c) throws Exception {
        String text = Files.readString(Path.of(System.getProperty("main", "src/main/java/MachineBench.java")));
        String code = text.replaceAll("(?s)/\\*.*?\\*/", "").replaceAll("//[^\n]*", "");
        for (String word : NOT_ALLOWED) {
            c.holds("no " + word, !Pattern.compile(word).matcher(code).find());
        }
        for (String line : code.split("\n")) {
            c.holds("imports: " + line, !line.startsWith("import") || line.equals("import java.util.Arrays;"));
            c.holds("no package", !line.startsWith("package"));
        }
    }
}
