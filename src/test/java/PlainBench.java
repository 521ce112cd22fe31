import java.util.ArrayList;
import java.util.List;

/**
 * The document again, slow and in another way than MachineBench, for AgainstPlainTest: texts stay texts, faults are
 * found by a table of what may follow, orders are all gone through, sheets are real arrays and what the machine throws.
 */
public final class PlainBench {
    private static final int BAD = -1, NOT = -2, FULL = -3, NONE = -4, NULL = -11, CAST = -12, INDEX = -13, SIZE = -14;

    private record Rule(int maker, String test, int act, int state) { }

    private record Line(int kind, int tick, int number) { }

    private record Thing(int kind, int tick, int number) { }

    private record Step(int state, int rule, int act) { }

    private String tape = "";
    private String duty = null;
    private final List<List<Rule>> machines = new ArrayList<>(List.of(new ArrayList<>(), new ArrayList<>()));
    private final List<int[]> world = new ArrayList<>();
    private final List<Line> book = new ArrayList<>();
    private final List<List<Integer>> keepers = new ArrayList<>(List.of(List.of(), List.of(), List.of()));
    private final List<Thing> things = new ArrayList<>();
    private final Object[] sheets = new Object[4];
    private int[] doing = null;

    public PlainBench() {
        ticks(4);
    }

    // ---- texts

    public int type(long w, int n) {
        if (n < 1 || n > 8) {
            return BAD;
        }
        String more = "";
        for (int i = 0; i < n; i++) {
            long b = Math.floorMod(w, 256L);
            if (b < 32 || b > 126) {
                return BAD;
            }
            more = (char) b + more;
            w = Math.floorDiv(w, 256L);
        }
        if (tape.length() + n > 120) {
            return FULL;
        }
        tape += more;
        return tape.length();
    }

    /** What may follow: each letter a sort of byte, in the place where the text stands. */
    private static int fault(String text, boolean asDuty) {
        String at = asDuty ? "claim!" : "maker";
        int open = 0;
        int clauses = 1;
        for (int i = 0; i < text.length(); i++) {
            char c = text.charAt(i);
            boolean digit = c >= '0' && c <= '3';
            if (c == ' ') {
                continue;
            }
            String next = null;
            switch (at) {
                case "maker" -> next = digit ? "claim!" : null;
                case "claim!", "claim" -> {
                    if (c == '!' && at.equals("claim!")) {
                        next = "claim";
                    } else if (c == 'f' || c == 's' || c == 'a' && asDuty) {
                        next = "digit";
                    } else if (c == 'l' || c == '*') {
                        next = "behind";
                    } else if (c == '(' && open < 5) {
                        open++;
                        next = "claim!";
                    }
                }
                case "digit" -> next = digit ? "behind" : null;
                case "behind" -> {
                    if (c == '&' || c == '|') {
                        next = "claim!";
                    } else if (c == ')' && open > 0) {
                        open--;
                        next = "behind";
                    } else if (c == ':' && open == 0 && !asDuty) {
                        next = "act";
                    }
                }
                case "act" -> next = digit ? "perhaps state" : null;
                case "state" -> next = digit ? "clause's end" : null;
                default -> {
                    if (c == '>' && at.equals("perhaps state")) {
                        next = "state";
                    } else if (c == ';' && clauses < 8) {
                        clauses++;
                        next = "maker";
                    }
                }
            }
            if (next == null) {
                return i;
            }
            at = next;
        }
        boolean ends = asDuty ? at.equals("behind") && open == 0 : at.equals("perhaps state") || at.equals("clause's end");
        return ends ? -1 : text.length();
    }

    /** The places of a sign outside of all ( ), as the parts between them. */
    private static List<String> split(String text, char sign) {
        List<String> parts = new ArrayList<>();
        int open = 0;
        int from = 0;
        for (int i = 0; i < text.length(); i++) {
            char c = text.charAt(i);
            open += c == '(' ? 1 : c == ')' ? -1 : 0;
            if (c == sign && open == 0) {
                parts.add(text.substring(from, i));
                from = i + 1;
            }
        }
        parts.add(text.substring(from));
        return parts;
    }

    private static boolean holds(String test, int state, int sight, int lot, int act) {
        boolean any = false;
        for (String one : split(test, '|')) {
            boolean all = true;
            for (String claim : split(one, '&')) {
                all &= claimed(claim, state, sight, lot, act);
            }
            any |= all;
        }
        return any;
    }

    private static boolean claimed(String claim, int state, int sight, int lot, int act) {
        char c = claim.charAt(0);
        if (c == '!') {
            return !claimed(claim.substring(1), state, sight, lot, act);
        }
        if (c == '(') {
            return holds(claim.substring(1, claim.length() - 1), state, sight, lot, act);
        }
        if (c == '*') {
            return true;
        }
        if (c == 'l') {
            return lot == 1;
        }
        int digit = claim.charAt(1) - '0';
        return c == 'f' ? (sight >> digit) % 2 == 1 : c == 's' ? state == digit : act == digit;
    }

    public int rules(int machine) {
        if (machine != 0 && machine != 1) {
            return BAD;
        }
        String text = tape;
        tape = "";
        int place = fault(text, false);
        if (place >= 0) {
            return -20 - place;
        }
        List<Rule> rules = new ArrayList<>();
        for (String clause : text.replace(" ", "").split(";")) {
            String[] half = clause.substring(1).split(":");
            int state = half[1].length() > 1 ? half[1].charAt(2) - '0' : NONE;
            rules.add(new Rule(clause.charAt(0) - '0', half[0], half[1].charAt(0) - '0', state));
        }
        machines.set(machine, rules);
        return rules.size();
    }

    public int rule(int machine, int rule, int what) {
        if (machine < 0 || machine > 1 || rule < 0 || rule >= machines.get(machine).size() || what < 0 || what > 2) {
            return BAD;
        }
        Rule r = machines.get(machine).get(rule);
        return new int[] {r.maker, r.act, r.state}[what];
    }

    // ---- the world

    public int ticks(int n) {
        if (n < 1 || n > 12) {
            return BAD;
        }
        int had = world.size();
        while (world.size() > n) {
            world.remove(world.size() - 1);
        }
        while (world.size() < n) {
            world.add(new int[] {0, 0, 15});
        }
        return had;
    }

    public int world(int tick, int what, int v) {
        if (tick < 0 || tick >= world.size() || what < 0 || what > 2 || v < 0 || v > (what == 1 ? 1 : 15)) {
            return BAD;
        }
        int was = world.get(tick)[what];
        world.get(tick)[what] = v;
        return was;
    }

    public int sights(int sheet, int lane, int i) {
        if (sheet < 0 || sheet > 3 || lane != 1 && lane != 2) {
            return BAD;
        }
        int[] got = new int[world.size()];
        try {
            sheets[sheet].getClass();
            byte[] bytes = lane == 1 ? (byte[]) sheets[sheet] : null;
            int[] ints = lane == 2 ? (int[]) sheets[sheet] : null;
            for (int t = 0; t < got.length; t++) {
                got[t] = lane == 1 ? bytes[i + t] : ints[i + t];
            }
        } catch (RuntimeException e) {
            return found(e);
        }
        for (int v : got) {
            if (v < 0 || v > 15) {
                return NOT;
            }
        }
        for (int t = 0; t < got.length; t++) {
            world.get(t)[0] = got[t];
        }
        return got.length;
    }

    public int lots(int sheet, int i) {
        if (sheet < 0 || sheet > 3) {
            return BAD;
        }
        int ones = 0;
        int[] got = new int[world.size()];
        try {
            boolean[] row = (boolean[]) sheets[sheet];
            for (int t = 0; t < got.length; t++) {
                got[t] = row[i + t] ? 1 : 0;
                ones += got[t];
            }
        } catch (RuntimeException e) {
            return found(e);
        }
        for (int t = 0; t < got.length; t++) {
            world.get(t)[1] = got[t];
        }
        return ones;
    }

    private static int choice(List<Rule> rules, int state, int sight, int lot) {
        for (int r = 0; r < rules.size(); r++) {
            if (rules.get(r) != null && holds(rules.get(r).test, state, sight, lot, 0)) {
                return r;
            }
        }
        return 8;
    }

    /** Rules that are not there are null, so that the others keep their numbers. */
    private static List<Step> played(List<Rule> rules, List<int[]> on) {
        List<Step> steps = new ArrayList<>();
        int state = 0;
        for (int[] tick : on) {
            int r = choice(rules, state, tick[0], tick[1]);
            steps.add(new Step(state, r, r == 8 ? 0 : rules.get(r).act));
            state = r == 8 || rules.get(r).state == NONE ? state : rules.get(r).state;
        }
        return steps;
    }

    public int play(int machine, int tick, int what) {
        if (machine < 0 || machine > 1 || tick < 0 || tick >= world.size() || what < 0 || what > 2) {
            return BAD;
        }
        Step s = played(machines.get(machine), world).get(tick);
        return new int[] {s.state, s.rule, s.act}[what];
    }

    public int chooses(int machine, int state, int sight, int lot) {
        if (machine < 0 || machine > 1 || state < 0 || state > 3 || sight < 0 || sight > 15 || lot < 0 || lot > 1) {
            return BAD;
        }
        return choice(machines.get(machine), state, sight, lot);
    }

    // ---- the book

    public int write(int room) {
        if (room < 0 || room > 48) {
            return BAD;
        }
        book.clear();
        List<Step> steps = played(machines.get(0), world);
        for (int t = 0; t < steps.size(); t++) {
            book.add(new Line(0, t, world.get(t)[0]));
            book.add(new Line(3, t, world.get(t)[1]));
            book.add(new Line(1, t, steps.get(t).rule));
            book.add(new Line(2, t, steps.get(t).act));
        }
        int lost = 0;
        while (book.size() - lost > room) {
            loseOne();
            lost++;
        }
        return lost;
    }

    private void loseOne() {
        for (int kind : new int[] {1, 3, 0, 2}) {
            for (int i = book.size() - 1; i >= 0; i--) {
                if (book.get(i).kind == kind) {
                    book.set(i, new Line(5, book.get(i).tick, 0));
                    return;
                }
            }
        }
    }

    public int tell(int tick, int number) {
        if (tick < 0 || tick > 11 || number < 0 || number > 99) {
            return BAD;
        }
        if (book.size() == 48) {
            return FULL;
        }
        book.add(new Line(4, tick, number));
        return book.size() - 1;
    }

    private int seal(int i) {
        Line l = book.get(i);
        int ahead = i == 0 ? 1 : seal(i - 1);
        return (31 * ahead + 131 * l.kind + 17 * l.tick + 7 * l.number + 1) % 9973;
    }

    private boolean isHeld(int line) {
        int some = 0;
        int have = 0;
        for (List<Integer> k : keepers) {
            some += k.isEmpty() ? 0 : 1;
            have += k.size() > line && k.get(line) == seal(line) ? 1 : 0;
        }
        return have >= 2 || have == 1 && some == 1;
    }

    public int line(int line, int what) {
        if (line < 0 || line >= book.size() || what < 0 || what > 4) {
            return BAD;
        }
        Line l = book.get(line);
        if (l.kind == 5 && what == 2) {
            return CAST;
        }
        return new int[] {l.kind, l.tick, l.number, seal(line), isHeld(line) ? 1 : 0}[what];
    }

    public int forge(int line, int number) {
        if (line < 0 || line >= book.size() || number < 0) {
            return BAD;
        }
        Line l = book.get(line);
        int most = l.kind == 0 ? 15 : l.kind == 1 ? 8 : l.kind == 2 ? 3 : l.kind == 3 ? 1 : 99;
        if (number > most) {
            return BAD;
        }
        if (l.kind == 5) {
            return CAST;
        }
        book.set(line, new Line(l.kind, l.tick, number));
        return l.number;
    }

    public int swap(int a, int b) {
        if (a < 0 || b < 0 || a >= book.size() || b >= book.size() || a == b) {
            return BAD;
        }
        Line l = book.get(a);
        book.set(a, book.get(b));
        book.set(b, l);
        return 1;
    }

    public int tear(int line) {
        if (line < 0 || line >= book.size()) {
            return BAD;
        }
        book.remove(line);
        return book.size();
    }

    public int give(int keeper) {
        if (keeper < 0 || keeper > 2) {
            return BAD;
        }
        List<Integer> seals = new ArrayList<>();
        for (int i = 0; i < book.size(); i++) {
            seals.add(seal(i));
        }
        keepers.set(keeper, seals);
        return seals.size();
    }

    public int kept(int keeper, int line) {
        if (keeper < 0 || keeper > 2 || line < 0 || line > 47) {
            return BAD;
        }
        return line < keepers.get(keeper).size() ? keepers.get(keeper).get(line) : NONE;
    }

    public int torn() {
        if (keepers.stream().allMatch(List::isEmpty)) {
            return NOT;
        }
        for (int i = 0; i < book.size(); i++) {
            if (!isHeld(i)) {
                return i;
            }
        }
        return NONE;
    }

    private int firstNumber(int kind, int tick, int without) {
        for (Line l : book) {
            if (l.kind == kind && l.tick == tick) {
                return l.number;
            }
        }
        return without;
    }

    public int differs() {
        List<int[]> on = new ArrayList<>();
        for (int t = 0; t < world.size(); t++) {
            on.add(new int[] {firstNumber(0, t, world.get(t)[0]), firstNumber(3, t, world.get(t)[1])});
        }
        List<Step> steps = played(machines.get(0), on);
        for (int i = 0; i < book.size(); i++) {
            Line l = book.get(i);
            if (l.tick >= world.size()) {
                continue;
            }
            Step s = steps.get(l.tick);
            if (l.kind == 1 && l.number != s.rule || l.kind == 2 && l.number != s.act) {
                return i;
            }
        }
        return NONE;
    }

    public int count(int what) {
        if (what < 0 || what > 5) {
            return BAD;
        }
        int lost = 0;
        for (Line l : book) {
            lost += l.kind == 5 ? 1 : 0;
        }
        return new int[] {world.size(), machines.get(0).size(), machines.get(1).size(), book.size(), lost, things.size()}[what];
    }

    // ---- why, whose, duties

    public int doing(int act, int tick) {
        if (act < 0 || act > 3 || tick < 0 || tick >= world.size()) {
            return BAD;
        }
        doing = new int[] {act, tick};
        return comes(0) ? 1 : 0;
    }

    public int thing(int kind, int tick, int number) {
        boolean good = kind == 0 && tick >= 0 && tick < 12 && number >= 0 && number < 4
            || kind == 1 && tick >= 0 && tick < 12 && number == 0
            || kind == 2 && tick == 0 && number >= 0 && number < 8;
        if (!good) {
            return BAD;
        }
        Thing t = new Thing(kind, tick, number);
        if (things.contains(t)) {
            return NOT;
        }
        if (things.size() == 6) {
            return FULL;
        }
        things.add(t);
        return things.size() - 1;
    }

    public int clear() {
        int had = things.size();
        things.clear();
        return had;
    }

    private boolean comes(int set) {
        List<int[]> on = new ArrayList<>();
        for (int[] tick : world) {
            on.add(tick.clone());
        }
        List<Rule> rules = new ArrayList<>(machines.get(0));
        for (int i = 0; i < things.size(); i++) {
            Thing t = things.get(i);
            if ((set >> i) % 2 == 0) {
                continue;
            }
            if (t.kind == 2 && t.number < rules.size()) {
                rules.set(t.number, null);
            } else if (t.kind == 1 && t.tick < on.size()) {
                on.get(t.tick)[1] = 1 - on.get(t.tick)[1];
            } else if (t.kind == 0 && t.tick < on.size()) {
                int bit = 1 << t.number;
                int sight = on.get(t.tick)[0];
                on.get(t.tick)[0] = (sight & bit) != 0 ? sight - bit : sight + bit;
            }
        }
        return played(rules, on).get(doing[1]).act == doing[0];
    }

    private boolean noDoing() {
        return doing == null || doing[1] >= world.size();
    }

    public int otherwise(int set) {
        if (set < 0 || set >= 1 << things.size()) {
            return BAD;
        }
        return noDoing() ? NOT : comes(set) ? 1 : 0;
    }

    private boolean isBecause(int set) {
        return comes(0) && !comes(set);
    }

    private boolean isEnough(int set) {
        int others = (1 << things.size()) - 1 - set;
        for (int some = others;; some = (some - 1) & others) {
            if (!comes(some)) {
                return false;
            }
            if (some == 0) {
                return true;
            }
        }
    }

    private int least(boolean enough) {
        if (noDoing()) {
            return NOT;
        }
        for (int size = 0; size <= things.size(); size++) {
            for (int set = 0; set < 1 << things.size(); set++) {
                if (Integer.bitCount(set) == size && (enough ? isEnough(set) : isBecause(set))) {
                    return set;
                }
            }
        }
        return NONE;
    }

    public int because() {
        return least(false);
    }

    public int enough() {
        return least(true);
    }

    public int sets(int what) {
        if (what != 0 && what != 1) {
            return BAD;
        }
        if (noDoing()) {
            return NOT;
        }
        int n = 0;
        for (int set = 0; set < 1 << things.size(); set++) {
            n += (what == 1 ? isEnough(set) : isBecause(set)) ? 1 : 0;
        }
        return n;
    }

    private boolean comesBy(List<Integer> makers) {
        List<Rule> rules = new ArrayList<>();
        for (Rule r : machines.get(0)) {
            if (makers.contains(r.maker)) {
                rules.add(r);
            }
        }
        return played(rules, world).get(doing[1]).act == doing[0];
    }

    private int parts(List<Integer> come, int maker) {
        if (come.size() == 4) {
            int at = come.indexOf(maker);
            return comesBy(come.subList(0, at + 1)) && !comesBy(come.subList(0, at)) ? 1 : 0;
        }
        int n = 0;
        for (int next = 0; next < 4; next++) {
            if (!come.contains(next)) {
                List<Integer> more = new ArrayList<>(come);
                more.add(next);
                n += parts(more, maker);
            }
        }
        return n;
    }

    public int part(int maker) {
        if (maker < 0 || maker > 3) {
            return BAD;
        }
        return noDoing() ? NOT : parts(List.of(), maker);
    }

    public int careful(int tick, int by) {
        if (tick < 0 || tick >= world.size() || by < 0 || by > 1) {
            return BAD;
        }
        List<int[]> on = new ArrayList<>();
        for (int[] t : world) {
            on.add(new int[] {by == 0 ? t[0] & t[2] : t[0], t[1]});
        }
        return played(machines.get(1), on).get(tick).act;
    }

    public int saying(int features, boolean atState, boolean atLot) {
        if (features < 0 || features > 15) {
            return BAD;
        }
        for (int a = 0; a < 128; a++) {
            for (int b = a + 1; b < 128; b++) {
                boolean alike = (!atState || a / 32 == b / 32) && (!atLot || a % 2 == b % 2)
                    && (a % 32 / 2 & features) == (b % 32 / 2 & features);
                if (alike && actAt(a) != actAt(b)) {
                    return 128 * a + b;
                }
            }
        }
        return NONE;
    }

    private int actAt(int number) {
        int r = choice(machines.get(0), number / 32, number % 32 / 2, number % 2);
        return r == 8 ? 0 : machines.get(0).get(r).act;
    }

    public int duty() {
        String text = tape;
        tape = "";
        int place = fault(text, true);
        if (place >= 0) {
            return -20 - place;
        }
        duty = text.replace(" ", "");
        return 1;
    }

    public int broken() {
        if (duty == null) {
            return NOT;
        }
        List<Step> steps = played(machines.get(0), world);
        for (int t = 0; t < steps.size(); t++) {
            if (!holds(duty, steps.get(t).state, world.get(t)[0], world.get(t)[1], steps.get(t).act)) {
                return t;
            }
        }
        return NONE;
    }

    // ---- sheets

    private static int found(RuntimeException e) {
        return e instanceof NullPointerException ? NULL : e instanceof ClassCastException || e instanceof ArrayStoreException ? CAST
            : e instanceof IndexOutOfBoundsException ? INDEX : SIZE;
    }

    public int sheet(int sheet, int lane, int n) {
        if (sheet < 0 || sheet > 3 || lane < 0 || lane > 2 || n > 48) {
            return BAD;
        }
        try {
            sheets[sheet] = lane == 0 ? new boolean[n] : lane == 1 ? new byte[n] : new int[n];
            return n;
        } catch (RuntimeException e) {
            return found(e);
        }
    }

    public int drop(int sheet) {
        if (sheet < 0 || sheet > 3) {
            return BAD;
        }
        try {
            int n = java.lang.reflect.Array.getLength(sheets[sheet]);
            sheets[sheet] = null;
            return n;
        } catch (RuntimeException e) {
            return found(e);
        }
    }

    public int item(int sheet, int lane, int i, int v) {
        if (sheet < 0 || sheet > 3 || lane < 0 || lane > 2) {
            return BAD;
        }
        try {
            if (lane == 0) {
                ((boolean[]) sheets[sheet])[i] = v != 0;
            } else if (lane == 1) {
                ((byte[]) sheets[sheet])[i] = (byte) v;
            } else {
                ((int[]) sheets[sheet])[i] = v;
            }
            return 1;
        } catch (RuntimeException e) {
            return found(e);
        }
    }

    public int copy(int from, int i, int to, int j, int n) {
        if (from < 0 || from > 3 || to < 0 || to > 3) {
            return BAD;
        }
        try {
            System.arraycopy(sheets[from], i, sheets[to], j, n);
            return n;
        } catch (RuntimeException e) {
            return found(e);
        }
    }
}
