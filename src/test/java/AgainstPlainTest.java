import java.lang.reflect.InvocationTargetException;
import java.lang.reflect.Method;
import java.util.ArrayList;
import java.util.Arrays;
import java.util.Comparator;
import java.util.List;
import java.util.Random;

/** Random runs (of a fixed seed) of 512 calls, each answer held against PlainBench's. */
public final class AgainstPlainTest {
    private static final int RUNS = 1500;
    private static final Check C = new Check();
    private static final Random R = new Random(20261118);

    public static void main(String[] args) throws Exception {
        for (int run = 0; run < RUNS; run++) {
            if (!oneRun(run)) {
                break;
            }
        }
        C.end("AgainstPlainTest");
    }

    private static boolean oneRun(int run) throws Exception {
        MachineBench bench = new MachineBench();
        PlainBench plain = new PlainBench();
        List<Method> methods = faceInOrder();
        List<String> log = new ArrayList<>();
        int only = R.nextInt(5);
        String text = "";
        for (int calls = 0; calls < 512; calls++) {
            Method m = methods.get(R.nextInt(methods.size()));
            if (only > 0 && R.nextInt(4) > 0 && chapter(m.getName()) != only) {
                continue;
            }
            if (text.isEmpty() && (m.getName().equals("rules") || m.getName().equals("duty")) && R.nextInt(20) > 0) {
                text = perhapsSpoilt(m.getName().equals("duty") ? test(0, true) : someRules());
            }
            Object[] args;
            if (!text.isEmpty()) {
                int n = Math.min(text.length(), 1 + R.nextInt(8));
                args = new Object[] {Check.word(text.substring(0, n)), n};
                text = text.substring(n);
                Method type = MachineBench.class.getMethod("type", long.class, int.class);
                if (!same(run, log, bench, plain, type, args)) {
                    return false;
                }
                if (!text.isEmpty()) {
                    continue;
                }
                m = R.nextInt(3) > 0 ? MachineBench.class.getMethod("rules", int.class) : MachineBench.class.getMethod("duty");
            }
            if (!same(run, log, bench, plain, m, arguments(m))) {
                return false;
            }
        }
        return true;
    }

    private static List<Method> faceInOrder() {
        List<Method> methods = new ArrayList<>();
        for (Method m : MachineBench.class.getDeclaredMethods()) {
            if (java.lang.reflect.Modifier.isPublic(m.getModifiers())) {
                methods.add(m);
            }
        }
        methods.sort(Comparator.comparing(Method::getName));
        return methods;
    }

    private static int chapter(String name) {
        if ("write tell line forge swap tear give kept torn differs".contains(name)) {
            return 2;
        }
        if ("doing thing clear otherwise because enough sets part careful saying duty broken".contains(name)) {
            return 3;
        }
        return "sheet drop item copy sights lots".contains(name) ? 4 : 1;
    }

    private static boolean same(int run, List<String> log, MachineBench bench, PlainBench plain, Method m, Object[] args) throws Exception {
        log.add(m.getName() + Arrays.toString(args));
        Method other = PlainBench.class.getMethod(m.getName(), m.getParameterTypes());
        int want = (Integer) other.invoke(plain, args);
        int got;
        try {
            got = (Integer) m.invoke(bench, args);
        } catch (InvocationTargetException e) {
            C.holds("run " + run + " threw " + e.getCause() + " in " + log, false);
            return false;
        }
        C.due("run " + run + " " + log.get(log.size() - 1), got, want);
        if (got != want) {
            System.out.println(log);
        }
        return got == want;
    }

    /** Mostly small numbers about the document's limits, at times far ones. */
    private static int number(int most) {
        int kind = R.nextInt(40);
        if (kind == 0) {
            return R.nextInt();
        }
        if (kind == 1) {
            return R.nextBoolean() ? Integer.MAX_VALUE - R.nextInt(3) : Integer.MIN_VALUE + R.nextInt(3);
        }
        return kind < 5 ? R.nextInt(most + 4) - 2 : R.nextInt(most + 1);
    }

    private static Object[] arguments(Method m) {
        int[] most;
        switch (m.getName()) {
            case "type": return new Object[] {R.nextBoolean() ? R.nextLong() : 32L + R.nextInt(95), number(1)};
            case "saying": return new Object[] {R.nextBoolean() ? 15 : number(15), R.nextBoolean(), R.nextBoolean()};
            case "rules": most = new int[] {1}; break;
            case "rule": most = new int[] {1, 7, 2}; break;
            case "ticks": most = new int[] {12}; break;
            case "world": int what = number(2); return new Object[] {number(11), what, number(what == 1 ? 1 : 15)};
            case "sights": most = new int[] {3, 2, R.nextBoolean() ? 3 : 44}; break;
            case "lots": most = new int[] {3, R.nextBoolean() ? 3 : 44}; break;
            case "play": most = new int[] {1, 11, 2}; break;
            case "chooses": most = new int[] {1, 3, 15, 1}; break;
            case "write": most = new int[] {48}; break;
            case "tell": most = new int[] {11, 99}; break;
            case "line": most = new int[] {R.nextBoolean() ? 12 : 47, 4}; break;
            case "forge": most = new int[] {R.nextBoolean() ? 12 : 47, R.nextInt(3) > 0 ? 3 : 99}; break;
            case "swap": most = new int[] {R.nextBoolean() ? 12 : 47, R.nextBoolean() ? 12 : 47}; break;
            case "tear": most = new int[] {47}; break;
            case "give": most = new int[] {2}; break;
            case "kept": most = new int[] {2, 47}; break;
            case "count": most = new int[] {5}; break;
            case "doing": most = new int[] {3, R.nextBoolean() ? 3 : 11}; break;
            case "thing": return aThing();
            case "otherwise": most = new int[] {R.nextBoolean() ? 7 : 63}; break;
            case "sets": most = new int[] {1}; break;
            case "part": most = new int[] {3}; break;
            case "careful": most = new int[] {11, 1}; break;
            case "sheet": most = new int[] {3, 2, 48}; break;
            case "drop": most = new int[] {3}; break;
            case "item": most = new int[] {3, 2, R.nextBoolean() ? 6 : 47, 15}; break;
            case "copy": most = new int[] {3, 20, 3, 20, R.nextBoolean() ? 6 : 48}; break;
            default: most = new int[0];
        }
        Object[] args = new Object[most.length];
        for (int i = 0; i < args.length; i++) {
            args[i] = number(most[i]);
        }
        return args;
    }

    private static Object[] aThing() {
        int kind = number(2);
        return new Object[] {kind, kind == 2 ? number(0) : number(R.nextBoolean() ? 3 : 11), number(kind == 0 ? 3 : kind == 1 ? 0 : 7)};
    }

    private static String someRules() {
        StringBuilder s = new StringBuilder();
        int clauses = 1 + R.nextInt(R.nextInt(6) == 0 ? 9 : 5);
        for (int i = 0; i < clauses; i++) {
            s.append(i == 0 ? "" : ";").append(R.nextInt(4)).append(test(0, false)).append(':').append(R.nextInt(4));
            s.append(R.nextInt(3) > 0 ? ">" + R.nextInt(4) : "");
        }
        return s.toString();
    }

    private static String test(int open, boolean acts) {
        StringBuilder s = new StringBuilder();
        int claims = 1 + R.nextInt(3);
        for (int i = 0; i < claims; i++) {
            s.append(i == 0 ? "" : R.nextBoolean() ? "&" : "|").append(R.nextInt(4) == 0 ? "!" : "");
            int kind = R.nextInt(9);
            if (kind < 3) {
                s.append('f').append(R.nextInt(4));
            } else if (kind < 5) {
                s.append(acts ? 'a' : 's').append(R.nextInt(4));
            } else if (kind == 5) {
                s.append(R.nextInt(3) == 0 ? "*" : "l");
            } else if (kind == 6) {
                s.append('s').append(R.nextInt(2));
            } else if (open < 6) {
                s.append('(').append(test(open + 1, acts)).append(')');
            } else {
                s.append('l');
            }
        }
        return s.toString();
    }

    private static String perhapsSpoilt(String text) {
        StringBuilder s = new StringBuilder(text);
        for (int blanks = R.nextInt(3) == 0 ? R.nextInt(8) : 0; blanks > 0; blanks--) {
            s.insert(R.nextInt(s.length() + 1), ' ');
        }
        if (R.nextInt(4) == 0) {
            int at = R.nextInt(s.length());
            String signs = " 01234fsla*!&|():>;x~";
            char sign = signs.charAt(R.nextInt(signs.length()));
            switch (R.nextInt(4)) {
                case 0 -> s.deleteCharAt(at);
                case 1 -> s.insert(at, sign);
                case 2 -> s.setCharAt(at, sign);
                default -> s.setLength(at);
            }
        }
        s.setLength(Math.min(s.length(), 120));
        return s.toString();
    }
}
