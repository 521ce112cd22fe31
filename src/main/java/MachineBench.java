import java.util.Arrays;

/**
 * A bench for machines told as texts of rules: what they do by ticks, the sealed book of it, why
 * a doing came and whose it was, duties, and sheets of rows. ../shared/DOC.md tells each promise.
 */
public final class MachineBench {
    public static final int BAD = -1, NOT = -2, FULL = -3, NONE = -4, NULL = -11, CAST = -12, INDEX = -13, SIZE = -14;

    private static final int FAULT = -20;
    private static final int TAPE_MOST = 120, OPEN_MOST = 5, RULES_MOST = 8, TICKS_MOST = 12;
    private static final int LINES_MOST = 48, ITEMS_MOST = 48, THINGS_MOST = 6, SETS_MOST = 64;
    private static final int STATES = 4, ACTS = 4, MAKERS = 4, MOMENTS = 128;
    private static final int DIGIT_LAST = 3, SIGHT_LAST = 15, TOLD_LAST = 99, TICK_LAST = 11;

    private static final int NO_RULE = 8, ALL_RULES = 255;
    private static final int SIGHT = 0, LOT = 1, MASK = 2;
    private static final int SAW = 0, CHOSE = 1, DID = 2, DREW = 3, TOLD = 4, LOST = 5;
    private static final int KIND = 0, TICK = 1, NUMBER = 2, SEAL = 3, HELD = 4;
    private static final int A_FEATURE = 0, A_LOT = 1, A_RULE = 2;
    private static final int BOOLEANS = 0, BYTES = 1, INTS = 2;

    /** The greatest NUMBER of a LINE of each KIND (of a LOST one: that may be asked for). */
    private static final int[] NUMBER_LAST = {15, 8, 3, 1, 99, 99};

    /** A new BOOK has SAW, DREW, CHOSE, DID of each TICK: which of these four is LOST first, second .. */
    private static final int[] LOST_FIRST = {2, 1, 0, 3};

    /** Of 24 orders of MAKERS those in which just these others come ahead, by how many they are. */
    private static final int[] ORDERS = {6, 2, 2, 6};

    /** Bit 2 SIGHT + LOT is set if the SIGHT has FEATURE 0 .. 3. */
    private static final int[] WITH_FEATURE = {0xCCCCCCCC, 0xF0F0F0F0, 0xFF00FF00, 0xFFFF0000};
    /** Bit 2 SIGHT + LOT is set if the LOT is 1. */
    private static final int WITH_LOT = 0xAAAAAAAA;

    private final Tape tape = new Tape();
    private final Reader reader = new Reader(tape);
    private final Machine[] machines = {new Machine(), new Machine()};
    private Machine draft = new Machine();
    private final World theWorld = new World();
    private final Play scene = new Play();
    private final Book book = new Book();
    private final Keeper[] keepers = {new Keeper(), new Keeper(), new Keeper()};
    private final Things things = new Things();
    private final boolean[] comes = new boolean[SETS_MOST];
    private final int[] actAt = new int[MOMENTS];
    private final int[] dutyHolds = new int[ACTS * STATES];
    private final Sheet[] sheets = {new Sheet(), new Sheet(), new Sheet(), new Sheet()};
    private boolean dutyTold = false;
    private int doingAct = NONE;
    private int doingTick = 0;

    public MachineBench() {
    }

    // ---- 1 machines, the world

    public int type(long w, int n) {
        if (n < 1 || n > 8) {
            return BAD;
        }
        for (int i = 0; i < n; i++) {
            int sign = byteOf(w, i);
            if (sign < 32 || sign > 126) {
                return BAD;
            }
        }
        if (tape.size + n > TAPE_MOST) {
            return FULL;
        }
        for (int i = n - 1; i >= 0; i--) {
            tape.add(byteOf(w, i));
        }
        return tape.size;
    }

    public int rules(int machine) {
        if (noMachine(machine)) {
            return BAD;
        }
        int answer = reader.readRules(draft);
        tape.size = 0;
        if (answer < 0) {
            return answer;
        }
        // The old RULES' room is the next draft: a text with a FAULT must not touch RULES that stand.
        Machine old = machines[machine];
        machines[machine] = draft;
        draft = old;
        return answer;
    }

    public int rule(int machine, int rule, int what) {
        if (noMachine(machine) || beyond(rule, machines[machine].size - 1) || beyond(what, 2)) {
            return BAD;
        }
        Machine m = machines[machine];
        return what == 0 ? m.maker[rule] : what == 1 ? m.act[rule] : m.next[rule];
    }

    public int ticks(int n) {
        if (n < 1 || n > TICKS_MOST) {
            return BAD;
        }
        int had = theWorld.size;
        theWorld.resize(n);
        return had;
    }

    public int world(int tick, int what, int v) {
        if (noTick(tick) || beyond(what, MASK) || beyond(v, what == LOT ? 1 : SIGHT_LAST)) {
            return BAD;
        }
        int was = theWorld.row[what][tick];
        theWorld.row[what][tick] = v;
        return was;
    }

    public int sights(int sheet, int lane, int i) {
        if (noSheet(sheet) || lane < BYTES || lane > INTS) {
            return BAD;
        }
        Sheet s = sheets[sheet];
        int found = s.findFault(lane, i, theWorld.size);
        if (found < 0) {
            return found;
        }
        for (int t = 0; t < theWorld.size; t++) {
            if (beyond(s.row[i + t], SIGHT_LAST)) {
                return NOT;
            }
        }
        System.arraycopy(s.row, i, theWorld.row[SIGHT], 0, theWorld.size);
        return theWorld.size;
    }

    public int lots(int sheet, int i) {
        if (noSheet(sheet)) {
            return BAD;
        }
        Sheet s = sheets[sheet];
        int found = s.findFault(BOOLEANS, i, theWorld.size);
        if (found < 0) {
            return found;
        }
        int ones = 0;
        for (int t = 0; t < theWorld.size; t++) {
            theWorld.row[LOT][t] = s.row[i + t];
            ones += s.row[i + t];
        }
        return ones;
    }

    public int play(int machine, int tick, int what) {
        if (noMachine(machine) || noTick(tick) || beyond(what, 2)) {
            return BAD;
        }
        playAsIs(machines[machine]);
        return what == 0 ? scene.state[tick] : what == 1 ? scene.chosen[tick] : scene.act[tick];
    }

    public int chooses(int machine, int state, int sight, int lot) {
        if (noMachine(machine) || beyond(state, STATES - 1) || beyond(sight, SIGHT_LAST) || beyond(lot, 1)) {
            return BAD;
        }
        return machines[machine].choose(ALL_RULES, state, 2 * sight + lot);
    }

    // ---- 2 the book

    public int write(int room) {
        if (beyond(room, LINES_MOST)) {
            return BAD;
        }
        playAsIs(machines[0]);
        book.size = 0;
        for (int t = 0; t < theWorld.size; t++) {
            book.add(SAW, t, scene.sight[t]);
            book.add(DREW, t, scene.lot[t]);
            book.add(CHOSE, t, scene.chosen[t]);
            book.add(DID, t, scene.act[t]);
        }
        int lost = Math.max(0, book.size - room);
        book.lose(lost);
        book.sealAll();
        return lost;
    }

    public int tell(int tick, int number) {
        if (beyond(tick, TICK_LAST) || beyond(number, TOLD_LAST)) {
            return BAD;
        }
        if (book.size >= LINES_MOST) {
            return FULL;
        }
        book.add(TOLD, tick, number);
        book.sealAll();
        return book.size - 1;
    }

    public int line(int line, int what) {
        if (noLine(line) || beyond(what, HELD)) {
            return BAD;
        }
        if (what == NUMBER && book.column[KIND][line] == LOST) {
            return CAST;
        }
        if (what == HELD) {
            return isHeld(line, countHolders()) ? 1 : 0;
        }
        return book.column[what][line];
    }

    public int forge(int line, int number) {
        if (noLine(line) || beyond(number, NUMBER_LAST[book.column[KIND][line]])) {
            return BAD;
        }
        if (book.column[KIND][line] == LOST) {
            return CAST;
        }
        int was = book.column[NUMBER][line];
        book.column[NUMBER][line] = number;
        book.sealAll();
        return was;
    }

    public int swap(int a, int b) {
        if (noLine(a) || noLine(b) || a == b) {
            return BAD;
        }
        book.exchange(a, b);
        book.sealAll();
        return 1;
    }

    public int tear(int line) {
        if (noLine(line)) {
            return BAD;
        }
        book.takeOut(line);
        book.sealAll();
        return book.size;
    }

    public int give(int keeper) {
        if (noKeeper(keeper)) {
            return BAD;
        }
        keepers[keeper].hold(book);
        return book.size;
    }

    public int kept(int keeper, int line) {
        if (noKeeper(keeper) || beyond(line, LINES_MOST - 1)) {
            return BAD;
        }
        return line < keepers[keeper].size ? keepers[keeper].seal[line] : NONE;
    }

    public int torn() {
        int holders = countHolders();
        if (holders == 0) {
            return NOT;
        }
        for (int i = 0; i < book.size; i++) {
            if (!isHeld(i, holders)) {
                return i;
            }
        }
        return NONE;
    }

    public int differs() {
        scene.look(theWorld);
        seeByBook();
        scene.run(machines[0], ALL_RULES, theWorld.size);
        for (int i = 0; i < book.size; i++) {
            int tick = book.column[TICK][i];
            if (tick < theWorld.size && isUnlikePlayed(book.column[KIND][i], tick, book.column[NUMBER][i])) {
                return i;
            }
        }
        return NONE;
    }

    public int count(int what) {
        switch (what) {
            case 0:
                return theWorld.size;
            case 1:
                return machines[0].size;
            case 2:
                return machines[1].size;
            case 3:
                return book.size;
            case 4:
                return book.countLost();
            case 5:
                return things.size;
            default:
                return BAD;
        }
    }

    // ---- 3 why, whose, duties

    public int doing(int act, int tick) {
        if (beyond(act, ACTS - 1) || noTick(tick)) {
            return BAD;
        }
        doingAct = act;
        doingTick = tick;
        return comesOtherwise(0) ? 1 : 0;
    }

    public int thing(int kind, int tick, int number) {
        if (beyond(kind, A_RULE) || beyond(tick, kind == A_RULE ? 0 : TICK_LAST) || beyond(number, lastOfThing(kind))) {
            return BAD;
        }
        if (things.has(kind, tick, number)) {
            return NOT;
        }
        if (things.size >= THINGS_MOST) {
            return FULL;
        }
        things.add(kind, tick, number);
        return things.size - 1;
    }

    public int clear() {
        int had = things.size;
        things.size = 0;
        return had;
    }

    public int otherwise(int set) {
        if (beyond(set, things.allBits())) {
            return BAD;
        }
        if (noDoing()) {
            return NOT;
        }
        return comesOtherwise(set) ? 1 : 0;
    }

    public int because() {
        return noDoing() ? NOT : leastSet(false);
    }

    public int enough() {
        return noDoing() ? NOT : leastSet(true);
    }

    public int sets(int what) {
        if (beyond(what, 1)) {
            return BAD;
        }
        if (noDoing()) {
            return NOT;
        }
        tryAllSets();
        int found = 0;
        for (int set = 0; set <= things.allBits(); set++) {
            if (what == 0 ? isBecause(set) : isEnough(set)) {
                found++;
            }
        }
        return found;
    }

    public int part(int maker) {
        if (beyond(maker, MAKERS - 1)) {
            return BAD;
        }
        if (noDoing()) {
            return NOT;
        }
        int own = 1 << maker;
        int found = 0;
        for (int ahead = 0; ahead < 1 << MAKERS; ahead++) {
            if ((ahead & own) == 0 && !comesWithMakers(ahead) && comesWithMakers(ahead | own)) {
                found += ORDERS[Integer.bitCount(ahead)];
            }
        }
        return found;
    }

    public int careful(int tick, int by) {
        if (noTick(tick) || beyond(by, 1)) {
            return BAD;
        }
        scene.look(theWorld);
        if (by == 0) {
            scene.hide(theWorld);
        }
        scene.run(machines[1], ALL_RULES, tick + 1);
        return scene.act[tick];
    }

    public int saying(int features, boolean atState, boolean atLot) {
        if (beyond(features, SIGHT_LAST)) {
            return BAD;
        }
        int looked = 2 * features + (atState ? 96 : 0) + (atLot ? 1 : 0);
        for (int m = 0; m < MOMENTS; m++) {
            actAt[m] = machines[0].actOf(machines[0].choose(ALL_RULES, m >> 5, m & 31));
        }
        for (int first = 0; first < MOMENTS; first++) {
            for (int greater = first + 1; greater < MOMENTS; greater++) {
                if (((first ^ greater) & looked) == 0 && actAt[first] != actAt[greater]) {
                    return MOMENTS * first + greater;
                }
            }
        }
        return NONE;
    }

    public int duty() {
        int answer = reader.readDuty(dutyHolds);
        tape.size = 0;
        if (answer < 0) {
            return answer;
        }
        dutyTold = true;
        return answer;
    }

    public int broken() {
        if (!dutyTold) {
            return NOT;
        }
        playAsIs(machines[0]);
        for (int t = 0; t < theWorld.size; t++) {
            int holds = dutyHolds[scene.act[t] * STATES + scene.state[t]];
            if ((holds >>> (2 * scene.sight[t] + scene.lot[t]) & 1) == 0) {
                return t;
            }
        }
        return NONE;
    }

    // ---- 4 sheets

    public int sheet(int sheet, int lane, int n) {
        if (noSheet(sheet) || beyond(lane, INTS) || n > ITEMS_MOST) {
            return BAD;
        }
        if (n < 0) {
            return SIZE;
        }
        sheets[sheet].renew(lane, n);
        return n;
    }

    public int drop(int sheet) {
        if (noSheet(sheet)) {
            return BAD;
        }
        Sheet s = sheets[sheet];
        if (s.lane == NONE) {
            return NULL;
        }
        s.lane = NONE;
        return s.size;
    }

    public int item(int sheet, int lane, int i, int v) {
        if (noSheet(sheet) || beyond(lane, INTS)) {
            return BAD;
        }
        Sheet s = sheets[sheet];
        int found = s.findFault(lane, i, 1);
        if (found < 0) {
            return found;
        }
        s.row[i] = lane == BOOLEANS ? (v != 0 ? 1 : 0) : lane == BYTES ? (byte) v : v;
        return 1;
    }

    public int copy(int from, int i, int to, int j, int n) {
        if (noSheet(from) || noSheet(to)) {
            return BAD;
        }
        Sheet source = sheets[from];
        Sheet target = sheets[to];
        if (source.lane == NONE || target.lane == NONE) {
            return NULL;
        }
        if (source.lane != target.lane) {
            return CAST;
        }
        if (source.lacks(i, n) || target.lacks(j, n)) {
            return INDEX;
        }
        System.arraycopy(source.row, i, target.row, j, n);
        return n;
    }

    // ---- what the calls share

    private static boolean beyond(int v, int last) {
        return v < 0 || v > last;
    }

    private static int byteOf(long w, int i) {
        return (int) (w >>> (8 * i)) & 255;
    }

    private boolean noMachine(int machine) {
        return beyond(machine, machines.length - 1);
    }

    private boolean noTick(int tick) {
        return beyond(tick, theWorld.size - 1);
    }

    private boolean noSheet(int sheet) {
        return beyond(sheet, sheets.length - 1);
    }

    private boolean noLine(int line) {
        return beyond(line, book.size - 1);
    }

    private boolean noKeeper(int keeper) {
        return beyond(keeper, keepers.length - 1);
    }

    private void playAsIs(Machine machine) {
        scene.look(theWorld);
        scene.run(machine, ALL_RULES, theWorld.size);
    }

    private int countHolders() {
        int holders = 0;
        for (int k = 0; k < keepers.length; k++) {
            if (keepers[k].size > 0) {
                holders++;
            }
        }
        return holders;
    }

    private boolean isHeld(int line, int holders) {
        int alike = 0;
        for (int k = 0; k < keepers.length; k++) {
            if (line < keepers[k].size && keepers[k].seal[line] == book.column[SEAL][line]) {
                alike++;
            }
        }
        return alike >= (holders == 1 ? 1 : 2);
    }

    /** Puts what THE BOOK saw and drew in place of THE WORLD's, from behind so that the first LINE stays. */
    private void seeByBook() {
        for (int i = book.size - 1; i >= 0; i--) {
            int tick = book.column[TICK][i];
            if (book.column[KIND][i] == SAW) {
                scene.sight[tick] = book.column[NUMBER][i];
            } else if (book.column[KIND][i] == DREW) {
                scene.lot[tick] = book.column[NUMBER][i];
            }
        }
    }

    private boolean isUnlikePlayed(int kind, int tick, int number) {
        return kind == CHOSE && number != scene.chosen[tick] || kind == DID && number != scene.act[tick];
    }

    private static int lastOfThing(int kind) {
        return kind == A_FEATURE ? DIGIT_LAST : kind == A_LOT ? 0 : RULES_MOST - 1;
    }

    private boolean noDoing() {
        return doingAct == NONE || noTick(doingTick);
    }

    private boolean comesOtherwise(int set) {
        scene.look(theWorld);
        int present = things.undo(set, scene);
        return comesWithRules(present);
    }

    private boolean comesWithMakers(int makers) {
        scene.look(theWorld);
        return comesWithRules(machines[0].rulesOf(makers));
    }

    private boolean comesWithRules(int present) {
        scene.run(machines[0], present, doingTick + 1);
        return scene.act[doingTick] == doingAct;
    }

    private void tryAllSets() {
        for (int set = 0; set <= things.allBits(); set++) {
            comes[set] = comesOtherwise(set);
        }
    }

    private int leastSet(boolean thatIsEnough) {
        tryAllSets();
        int least = NONE;
        int fewest = THINGS_MOST + 1;
        for (int set = 0; set <= things.allBits(); set++) {
            int size = Integer.bitCount(set);
            if (size < fewest && (thatIsEnough ? isEnough(set) : isBecause(set))) {
                least = set;
                fewest = size;
            }
        }
        return least;
    }

    private boolean isBecause(int set) {
        return comes[0] && !comes[set];
    }

    private boolean isEnough(int set) {
        for (int others = 0; others <= things.allBits(); others++) {
            if ((others & set) == 0 && !comes[others]) {
                return false;
            }
        }
        return true;
    }

    // ---- the parts of a bench

    /** THE TAPE: bytes that wait to be read as RULES or as THE DUTY. */
    private static final class Tape {
        final int[] sign = new int[TAPE_MOST];
        int size = 0;

        void add(int b) {
            if (size < TAPE_MOST) {
                sign[size] = b;
                size++;
            }
        }
    }

    /**
     * Reads THE TAPE. A TEST is kept as all moments at which it holds (word 4 ACT + STATE, bit
     * 2 SIGHT + LOT), so that a PLAY needs no text. After the first FAULT nothing more is taken.
     */
    private static final class Reader {
        private final Tape tape;
        private final int[][] anyCase = new int[OPEN_MOST + 1][ACTS * STATES];
        private final int[][] allClaims = new int[OPEN_MOST + 1][ACTS * STATES];
        private final int[] claim = new int[ACTS * STATES];
        private boolean actsToo = false;
        private boolean failed = false;
        private int place = 0;

        Reader(Tape tape) {
            this.tape = tape;
        }

        int readRules(Machine into) {
            start(false);
            into.size = 0;
            for (int r = 0; r < RULES_MOST; r++) {
                readClause(into, r);
                if (r == RULES_MOST - 1 || !takes(';')) {
                    break;
                }
            }
            needEnd();
            return failed ? FAULT - place : into.size;
        }

        int readDuty(int[] holds) {
            start(true);
            readTest(0);
            needEnd();
            if (failed) {
                return FAULT - place;
            }
            System.arraycopy(anyCase[0], 0, holds, 0, ACTS * STATES);
            return 1;
        }

        private void start(boolean withActs) {
            actsToo = withActs;
            failed = false;
            place = 0;
        }

        private void readClause(Machine into, int r) {
            into.maker[r] = takeDigit();
            readTest(0);
            System.arraycopy(anyCase[0], 0, into.holds[r], 0, STATES);
            need(':');
            into.act[r] = takeDigit();
            into.next[r] = takes('>') ? takeDigit() : NONE;
            into.size = r + 1;
        }

        private void readTest(int open) {
            int[] any = anyCase[open];
            Arrays.fill(any, 0);
            for (int cases = 0; cases < TAPE_MOST; cases++) {
                readCase(open);
                for (int i = 0; i < any.length; i++) {
                    any[i] |= allClaims[open][i];
                }
                if (!takes('|')) {
                    return;
                }
            }
        }

        private void readCase(int open) {
            int[] all = allClaims[open];
            Arrays.fill(all, -1);
            for (int claims = 0; claims < TAPE_MOST; claims++) {
                readClaim(open);
                for (int i = 0; i < all.length; i++) {
                    all[i] &= claim[i];
                }
                if (!takes('&')) {
                    return;
                }
            }
        }

        private void readClaim(int open) {
            int flip = takes('!') ? -1 : 0;
            if (takes('f')) {
                Arrays.fill(claim, WITH_FEATURE[takeDigit()]);
            } else if (takes('s')) {
                claimWords(takeDigit(), false);
            } else if (takes('l')) {
                Arrays.fill(claim, WITH_LOT);
            } else if (takes('*')) {
                Arrays.fill(claim, -1);
            } else if (actsToo && takes('a')) {
                claimWords(takeDigit(), true);
            } else if (open < OPEN_MOST && takes('(')) {
                readTest(open + 1);
                need(')');
                System.arraycopy(anyCase[open + 1], 0, claim, 0, claim.length);
            } else {
                failed = true;
            }
            for (int i = 0; i < claim.length; i++) {
                claim[i] ^= flip;
            }
        }

        private void claimWords(int digit, boolean ofAct) {
            for (int i = 0; i < claim.length; i++) {
                claim[i] = (ofAct ? i / STATES : i % STATES) == digit ? -1 : 0;
            }
        }

        private boolean takes(char wanted) {
            if (failed || nextSign() != wanted) {
                return false;
            }
            place++;
            return true;
        }

        private void need(char wanted) {
            if (!takes(wanted)) {
                failed = true;
            }
        }

        private void needEnd() {
            if (!failed && nextSign() >= 0) {
                failed = true;
            }
        }

        private int takeDigit() {
            int digit = failed ? NONE : nextSign() - '0';
            if (beyond(digit, DIGIT_LAST)) {
                failed = true;
                return 0;
            }
            place++;
            return digit;
        }

        /** The byte behind blanks, where place is then; below 0 at the end. */
        private int nextSign() {
            while (place < tape.size && tape.sign[place] == ' ') {
                place++;
            }
            return place < tape.size ? tape.sign[place] : NONE;
        }
    }

    /** RULES in their order, each with the moments at which its TEST holds (by STATE, bit 2 SIGHT + LOT). */
    private static final class Machine {
        final int[] maker = new int[RULES_MOST];
        final int[] act = new int[RULES_MOST];
        final int[] next = new int[RULES_MOST];
        final int[][] holds = new int[RULES_MOST][STATES];
        int size = 0;

        /** The first RULE of those present (bits) that holds, or NO_RULE. */
        int choose(int present, int state, int sightAndLot) {
            for (int r = 0; r < size; r++) {
                if ((present >> r & 1) == 1 && (holds[r][state] >>> sightAndLot & 1) == 1) {
                    return r;
                }
            }
            return NO_RULE;
        }

        int actOf(int rule) {
            return rule < size ? act[rule] : 0;
        }

        int stateAfter(int rule, int state) {
            return rule < size && next[rule] != NONE ? next[rule] : state;
        }

        int rulesOf(int makers) {
            int present = 0;
            for (int r = 0; r < size; r++) {
                present |= (makers >> maker[r] & 1) << r;
            }
            return present;
        }
    }

    /** THE WORLD: rows of SIGHTS, LOTS and MASKS by TICK. */
    private static final class World {
        final int[][] row = new int[MASK + 1][TICKS_MOST];
        int size = 4;

        World() {
            Arrays.fill(row[MASK], SIGHT_LAST);
        }

        void resize(int n) {
            for (int t = size; t < n; t++) {
                row[SIGHT][t] = 0;
                row[LOT][t] = 0;
                row[MASK][t] = SIGHT_LAST;
            }
            size = n;
        }
    }

    /** A PLAY: what is seen and drawn may be changed between look and run. */
    private static final class Play {
        final int[] sight = new int[TICKS_MOST];
        final int[] lot = new int[TICKS_MOST];
        final int[] state = new int[TICKS_MOST];
        final int[] chosen = new int[TICKS_MOST];
        final int[] act = new int[TICKS_MOST];

        void look(World world) {
            System.arraycopy(world.row[SIGHT], 0, sight, 0, TICKS_MOST);
            System.arraycopy(world.row[LOT], 0, lot, 0, TICKS_MOST);
        }

        void hide(World world) {
            for (int t = 0; t < TICKS_MOST; t++) {
                sight[t] &= world.row[MASK][t];
            }
        }

        void run(Machine machine, int present, int ticks) {
            int now = 0;
            for (int t = 0; t < ticks; t++) {
                int rule = machine.choose(present, now, 2 * sight[t] + lot[t]);
                state[t] = now;
                chosen[t] = rule;
                act[t] = machine.actOf(rule);
                now = machine.stateAfter(rule, now);
            }
        }
    }

    /** THE BOOK: columns KIND, TICK, NUMBER, SEAL of its LINES; sealAll follows every change. */
    private static final class Book {
        final int[][] column = new int[SEAL + 1][LINES_MOST];
        int size = 0;

        void add(int kind, int tick, int number) {
            if (size < LINES_MOST) {
                column[KIND][size] = kind;
                column[TICK][size] = tick;
                column[NUMBER][size] = number;
                size++;
            }
        }

        /** Makes n LINES of a new BOOK (four of each TICK) LOST ones. */
        void lose(int n) {
            int left = n;
            for (int k = 0; k < LOST_FIRST.length; k++) {
                for (int i = size - 4 + LOST_FIRST[k]; i >= 0 && left > 0; i -= 4) {
                    column[KIND][i] = LOST;
                    column[NUMBER][i] = 0;
                    left--;
                }
            }
        }

        void sealAll() {
            int seal = 1;
            for (int i = 0; i < size; i++) {
                int own = 131 * column[KIND][i] + 17 * column[TICK][i] + 7 * column[NUMBER][i] + 1;
                seal = (31 * seal + own) % 9973;
                column[SEAL][i] = seal;
            }
        }

        void exchange(int a, int b) {
            for (int c = KIND; c <= NUMBER; c++) {
                int was = column[c][a];
                column[c][a] = column[c][b];
                column[c][b] = was;
            }
        }

        void takeOut(int line) {
            for (int c = KIND; c <= NUMBER; c++) {
                System.arraycopy(column[c], line + 1, column[c], line, size - line - 1);
            }
            size--;
        }

        int countLost() {
            int lost = 0;
            for (int i = 0; i < size; i++) {
                if (column[KIND][i] == LOST) {
                    lost++;
                }
            }
            return lost;
        }
    }

    /** A KEEPER: SEALS as they were when given. */
    private static final class Keeper {
        final int[] seal = new int[LINES_MOST];
        int size = 0;

        void hold(Book book) {
            size = book.size;
            System.arraycopy(book.column[SEAL], 0, seal, 0, size);
        }
    }

    /** THINGS that may be OTHERWISE; a set of them is told by bits. */
    private static final class Things {
        final int[] kind = new int[THINGS_MOST];
        final int[] tick = new int[THINGS_MOST];
        final int[] number = new int[THINGS_MOST];
        int size = 0;

        boolean has(int ofKind, int ofTick, int ofNumber) {
            for (int i = 0; i < size; i++) {
                if (kind[i] == ofKind && tick[i] == ofTick && number[i] == ofNumber) {
                    return true;
                }
            }
            return false;
        }

        void add(int newKind, int newTick, int newNumber) {
            if (size < THINGS_MOST) {
                kind[size] = newKind;
                tick[size] = newTick;
                number[size] = newNumber;
                size++;
            }
        }

        int allBits() {
            return (1 << size) - 1;
        }

        /** Turns what is seen and drawn the other way: the RULES (bits) that are left. */
        int undo(int set, Play play) {
            int present = ALL_RULES;
            for (int i = 0; i < size; i++) {
                if ((set >> i & 1) == 0) {
                    continue;
                }
                if (kind[i] == A_FEATURE) {
                    play.sight[tick[i]] ^= 1 << number[i];
                } else if (kind[i] == A_LOT) {
                    play.lot[tick[i]] ^= 1;
                } else {
                    present &= ~(1 << number[i]);
                }
            }
            return present;
        }
    }

    /** A SHEET: a row of a LANE (booleans as 0 and 1), or nothing (LANE NONE). */
    private static final class Sheet {
        final int[] row = new int[ITEMS_MOST];
        int lane = NONE;
        int size = 0;

        void renew(int ofLane, int n) {
            lane = ofLane;
            size = n;
            Arrays.fill(row, 0);
        }

        boolean lacks(int i, int n) {
            return i < 0 || n < 0 || i > size - n;
        }

        /** What the machine finds when n items from i on are taken as of a LANE; else 0. */
        int findFault(int asLane, int i, int n) {
            if (lane == NONE) {
                return NULL;
            }
            if (lane != asLane) {
                return CAST;
            }
            return lacks(i, n) ? INDEX : 0;
        }
    }
}
