import java.lang.reflect.Method;
import java.lang.reflect.Modifier;
import java.util.ArrayList;
import java.util.Arrays;
import java.util.Comparator;
import java.util.List;
import java.util.Set;

/**
 * "What answers so changes nothing, but as told": calls with numbers at and beyond all edges, on a new bench, a bench
 * in use and a full one. Those that are refused, and all questions, leave every answer that can be asked for as it was.
 */
public final class NothingChangesTest {
    private static final Check C = new Check();
    private static final int TOGETHER = 40;
    private static final Set<String> QUESTIONS = Set.of("rule", "play", "chooses", "line", "kept", "torn", "differs",
        "count", "otherwise", "because", "enough", "sets", "part", "careful", "saying", "broken");
    private static final String[] NAMES = {"a new bench", "a bench in use", "a full bench"};
    private static final String[] FAULTS = {"", " ", "x", "1s1:1>1;", "!*:3", "!*&", "3*:3>3;3*:3>3;3*:3>3;3*:3>3;3*:3>3;3*:3>3;3*:3>3;3*:3>3;"};

    private interface View {
        void look(MachineBench x, List<Integer> into);
    }

    private static final View TAPE = NothingChangesTest::tape;
    private static final View[] VIEWS = {NothingChangesTest::rules, NothingChangesTest::choices, NothingChangesTest::world,
        NothingChangesTest::book, NothingChangesTest::keepers, NothingChangesTest::why, NothingChangesTest::things,
        NothingChangesTest::sayings, NothingChangesTest::duty, NothingChangesTest::sheets};

    public static void main(String[] args) throws Exception {
        for (int kind = 0; kind < NAMES.length; kind++) {
            for (Method m : face()) {
                unchanged(kind, m);
            }
            faults(kind);
        }
        C.end("NothingChangesTest");
    }

    private static List<Method> face() {
        List<Method> methods = new ArrayList<>();
        for (Method m : MachineBench.class.getDeclaredMethods()) {
            if (Modifier.isPublic(m.getModifiers())) {
                methods.add(m);
            }
        }
        methods.sort(Comparator.comparing(Method::getName));
        return methods;
    }

    // ---- benches

    private static MachineBench make(int kind) {
        return kind == 0 ? new MachineBench() : kind == 1 ? inUse() : full();
    }

    private static MachineBench inUse() {
        MachineBench x = Check.machine("1f0&!l:2>1;0s1:3;2f2|l:1>0");
        Check.rules(x, 1, "0f1:3>2;3s2&f0:1");
        x.ticks(6);
        int[][] world = {{1, 0, 15}, {5, 1, 3}, {0, 0, 0}, {4, 1, 12}, {3, 0, 1}, {15, 1, 14}};
        for (int t = 0; t < 6; t++) {
            for (int what = 0; what < 3; what++) {
                x.world(t, what, world[t][what]);
            }
        }
        x.write(20);
        x.tell(9, 77);
        x.give(0);
        x.forge(3, 1);
        x.give(2);
        x.tear(12);
        x.thing(0, 1, 2);
        x.thing(1, 0, 0);
        x.thing(2, 0, 1);
        x.doing(1, 3);
        Check.duty(x, "a1|!f2|s1");
        x.sheet(0, 1, 7);
        x.sheet(1, 0, 5);
        x.sheet(2, 2, 6);
        for (int i = 0; i < 5; i++) {
            x.item(0, 1, i, 3 * i);
            x.item(1, 0, i, i % 2);
            x.item(2, 2, i, 7 * i);
        }
        Check.type(x, "2f1&l:3");
        return x;
    }

    private static MachineBench full() {
        MachineBench x = Check.machine("0f0&l:1>1;1f1&l:2>2;2f2&l:3>3;3f3&l:1>0;0s1:2;1s2:3;2s3:1;3*:0");
        Check.rules(x, 1, "0l:1;1l:2;2l:3;3f3:1;0s1:2;1s2:3;2s3:1;3*:2>1");
        x.ticks(12);
        for (int t = 0; t < 12; t++) {
            x.world(t, 0, 1 + t);
            x.world(t, 1, t % 2);
            x.world(t, 2, 15 - t);
        }
        x.write(37);
        for (int k = 0; k < 3; k++) {
            x.forge(40 + k, 1);
            x.give(k);
        }
        for (int i = 0; i < 6; i++) {
            x.thing(i % 3, i % 3 == 2 ? 0 : i, i % 3 == 0 ? i % 4 : i % 3 == 2 ? i : 0);
        }
        x.doing(2, 8);
        Check.duty(x, "!(a1&s0)|l");
        for (int s = 0; s < 4; s++) {
            x.sheet(s, s % 3, 48);
            x.item(s, s % 3, 47, 1);
            x.item(s, s % 3, s, 1);
        }
        Check.type(x, "3(s2|l):2>1" + " ".repeat(109));
        return x;
    }

    // ---- all that can be asked for; no view takes more than 512 calls with the bench's own

    private static void rules(MachineBench x, List<Integer> into) {
        for (int machine = 0; machine < 2; machine++) {
            for (int i = 0; i < 12; i++) {
                for (int what = 0; what < 3; what++) {
                    into.add(x.play(machine, i, what));
                    into.add(x.rule(machine, i, what));
                }
            }
        }
    }

    private static void choices(MachineBench x, List<Integer> into) {
        for (int m = 0; m < 256; m++) {
            into.add(x.chooses(m / 128, m / 32 % 4, m / 2 % 16, m % 2));
        }
    }

    private static void world(MachineBench x, List<Integer> into) {
        for (int t = 0; t <= 12; t++) {
            for (int what = 0; what < 3; what++) {
                into.add(x.world(t, what, 0));
            }
        }
        into.add(x.ticks(12));
        into.add(x.play(0, 11, 0));
    }

    private static void book(MachineBench x, List<Integer> into) {
        for (int i = 0; i < 48; i++) {
            for (int what = 0; what < 5; what++) {
                into.add(x.line(i, what));
            }
        }
    }

    private static void keepers(MachineBench x, List<Integer> into) {
        for (int k = 0; k < 3; k++) {
            for (int i = 0; i < 48; i++) {
                into.add(x.kept(k, i));
            }
        }
        for (int what = 0; what < 6; what++) {
            into.add(x.count(what));
        }
        into.add(x.torn());
        into.add(x.differs());
    }

    private static void why(MachineBench x, List<Integer> into) {
        for (int set = 0; set <= 64; set++) {
            into.add(x.otherwise(set));
        }
        for (int i = 0; i < 4; i++) {
            into.add(x.part(i));
        }
        into.addAll(List.of(x.because(), x.enough(), x.sets(0), x.sets(1)));
        for (int act = 0; act < 4; act++) {
            x.rules(1);
            Check.rules(x, 0, "0*:" + act);
            into.add(x.otherwise(0));
        }
        for (int n = 12; n > 0; n--) {
            x.ticks(n);
            into.add(x.otherwise(0));
        }
    }

    private static void things(MachineBench x, List<Integer> into) {
        for (int i = 0; i < 68; i++) {
            into.add(i < 48 ? x.thing(0, i / 4, i % 4) : i < 60 ? x.thing(1, i - 48, 0) : x.thing(2, 0, i - 60));
        }
        into.add(x.clear());
    }

    private static void sayings(MachineBench x, List<Integer> into) {
        for (int i = 0; i < 64; i++) {
            into.add(x.saying(i % 16, i < 32, i % 32 < 16));
        }
        for (int t = 0; t < 12; t++) {
            into.add(x.careful(t, 0));
            into.add(x.careful(t, 1));
        }
    }

    private static void duty(MachineBench x, List<Integer> into) {
        into.add(x.broken());
        x.ticks(1);
        for (int i = 0; i < 32; i++) {
            x.world(0, 0, i / 2);
            x.world(0, 1, i % 2);
            into.add(x.broken());
        }
    }

    private static void sheets(MachineBench x, List<Integer> into) {
        x.ticks(1);
        for (int s = 0; s < 4; s++) {
            for (int i : new int[] {0, 1, 2, 3, 4, 5, 6, 7, 46, 47}) {
                into.addAll(List.of(x.lots(s, i), x.sights(s, 1, i), x.world(0, 0, 0), x.sights(s, 2, i), x.world(0, 0, 0)));
            }
            into.add(x.drop(s));
        }
    }

    private static void tape(MachineBench x, List<Integer> into) {
        into.add(x.type(32, 1));
        into.add(x.rules(1));
        rules(x, into);
        choices(x, into);
    }

    // ---- refused calls

    private static List<Integer> seen(View view, MachineBench x) {
        List<Integer> answers = new ArrayList<>();
        view.look(x, answers);
        return answers;
    }

    private static void unchanged(int kind, Method m) throws Exception {
        List<Object[]> refused = new ArrayList<>();
        for (Object[] args : someArguments(m)) {
            boolean fault = m.getName().equals("duty") || m.getName().equals("rules") && (Integer) args[0] >= 0 && (Integer) args[0] <= 1;
            if (!fault && (QUESTIONS.contains(m.getName()) || (Integer) m.invoke(make(kind), args) < 0)) {
                refused.add(args);
            }
        }
        for (int from = 0; from < refused.size(); from += TOGETHER) {
            List<Object[]> some = refused.subList(from, Math.min(refused.size(), from + TOGETHER));
            for (int v = 0; v <= VIEWS.length; v++) {
                View view = v < VIEWS.length ? VIEWS[v] : TAPE;
                MachineBench x = make(kind);
                for (Object[] args : some) {
                    m.invoke(x, args);
                }
                C.holds("view " + v + " of " + NAMES[kind] + " behind " + m.getName() + " " + Arrays.deepToString(some.toArray()),
                    seen(view, x).equals(seen(view, make(kind))));
            }
        }
    }

    private static List<Object[]> someArguments(Method m) {
        int[][] values = {{}, {-1, 0, 1, 2, 3, 4, 5, 6, 8, 12, 13, 22, 47, 48, 49, 63, 64, Integer.MIN_VALUE, Integer.MAX_VALUE},
            {-1, 0, 1, 2, 3, 4, 8, 11, 12, 16, 21, 47, 48, 100, Integer.MIN_VALUE, Integer.MAX_VALUE},
            {-1, 0, 1, 2, 3, 4, 5, 8, 12, 16, 48, 49, Integer.MAX_VALUE}, {-1, 0, 1, 2, 3, 4, 16, 48}, {-1, 0, 2, 4, 6, 48}};
        Class<?>[] types = m.getParameterTypes();
        List<Object[]> all = new ArrayList<>();
        all.add(new Object[0]);
        for (Class<?> type : types) {
            List<Object[]> longer = new ArrayList<>();
            for (Object[] start : all) {
                for (Object value : valuesOf(type, values[types.length])) {
                    Object[] args = Arrays.copyOf(start, start.length + 1);
                    args[start.length] = value;
                    longer.add(args);
                }
            }
            all = longer;
        }
        return all;
    }

    private static List<Object> valuesOf(Class<?> type, int[] values) {
        if (type == boolean.class) {
            return List.of(false, true);
        }
        if (type == long.class) {
            return List.of(0L, 31L, 48L, 127L, Check.word("00000000"), Check.word("00000000") - (17L << 56), -1L);
        }
        List<Object> boxed = new ArrayList<>();
        for (int v : values) {
            boxed.add(v);
        }
        return boxed;
    }

    /** A FAULT of RULES, of a DUTY: THE TAPE is empty then; all else stays. */
    private static void faults(int kind) {
        for (String text : FAULTS) {
            for (int call = 0; call < 3; call++) {
                for (int v = 0; v < VIEWS.length; v++) {
                    MachineBench x = make(kind);
                    x.rules(1);
                    MachineBench y = make(kind);
                    y.rules(1);
                    Check.type(x, text);
                    C.holds("a fault: " + text, (call < 2 ? x.rules(call) : x.duty()) <= -20);
                    C.holds("view " + v + " of " + NAMES[kind] + " behind '" + text + "' as " + call, seen(VIEWS[v], x).equals(seen(VIEWS[v], y)));
                }
            }
        }
    }
}
