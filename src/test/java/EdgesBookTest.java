/** The boundary cases of promises 11 to 21 and of what they use of the chapter 'Terms': a method for each sentence. */
public final class EdgesBookTest {
    private static final Check C = new Check();
    private static final int MIN = Integer.MIN_VALUE, MAX = Integer.MAX_VALUE;

    public static void main(String[] args) {
        writeRoom();
        writeNew();
        lostOrder();
        numbers();
        seals();
        tell();
        line();
        forge();
        swap();
        tear();
        give();
        kept();
        held();
        torn();
        playedAgain();
        differs();
        count();
        C.end("EdgesBookTest");
    }

    /** Two TICKS: at TICK 0 SIGHT 15, LOT 1, RULE 0, ACT 3; at TICK 1 SIGHT 0, LOT 0, no RULE, ACT 0: 8 LINES. */
    private static MachineBench two() {
        MachineBench x = Check.machine("0f0&f1&f2&f3&l:3");
        x.ticks(2);
        x.world(0, 0, 15);
        x.world(0, 1, 1);
        x.write(48);
        return x;
    }

    private static int[] kinds(MachineBench x) {
        int[] kinds = new int[x.count(3)];
        for (int i = 0; i < kinds.length; i++) {
            kinds[i] = x.line(i, 0);
        }
        return kinds;
    }

    private static int[] told(MachineBench x) {
        int[] numbers = new int[x.count(3)];
        for (int i = 0; i < numbers.length; i++) {
            numbers[i] = x.line(i, 2);
        }
        return numbers;
    }

    /** TOLD LINES of TICK 0 with NUMBERS 0, 1, .. */
    private static MachineBench tellings(int n) {
        MachineBench x = new MachineBench();
        for (int i = 0; i < n; i++) {
            x.tell(0, i);
        }
        return x;
    }

    // ---- 11

    private static void writeRoom() {
        C.sentence("11 ROOM for n LINES (0 .. 48). BAD");
        MachineBench x = two();
        x.tell(0, 1);
        C.every("room", -1, x.write(-1), x.write(49), x.write(MIN), x.write(MAX));
        C.due("bad ones change nothing", x.count(3), 9);
        C.row("0 and 48", Check.of(x.write(0), x.write(48)), 8, 0);
        C.sentence("11 how many are LOST: those that are beyond n");
        C.row("7, 8, 9, 1", Check.of(x.write(7), x.write(8), x.write(9), x.write(1)), 1, 0, 0, 7);
        x.ticks(12);
        C.row("of 48: 48, 47, 1, 0", Check.of(x.write(48), x.write(47), x.write(1), x.write(0)), 0, 1, 47, 48);
        C.row("they stay, as LOST ones", Check.of(x.count(3), x.count(4), x.line(47, 0), x.line(47, 1), x.line(48, 0)), 48, 48, 5, 11, -1);
        x.ticks(1);
        C.row("of 4: 4, 3, 0", Check.of(x.write(4), x.write(3), x.write(0)), 0, 1, 4);
    }

    private static void writeNew() {
        C.sentence("Terms: THE BOOK is new");
        MachineBench x = tellings(48);
        C.row("in place of 48", Check.of(x.write(48), x.count(3), x.line(16, 0)), 0, 16, -1);
        x.write(0);
        C.row("none is LOST then", Check.of(x.write(16), x.count(4), x.line(0, 2)), 0, 0, 0);
        C.due("it is written behind these", x.tell(0, 0), 16);
        C.sentence("Terms: TICK by TICK SAW, DREW, CHOSE, DID");
        C.row("kinds", kinds(two()), 0, 3, 1, 2, 0, 3, 1, 2);
        C.row("numbers", told(two()), 15, 1, 0, 3, 0, 0, 8, 0);
        C.row("of no rules", told(unruled()), 0, 0, 8, 0, 0, 0, 8, 0, 0, 0, 8, 0, 0, 0, 8, 0);
        C.sentence("11 A PLAY is WRITTEN: KEEPERS hold what they held");
        MachineBench y = tellings(3);
        int last = y.line(2, 3);
        y.give(0);
        y.write(48);
        C.row("three", Check.of(y.kept(0, 2), y.kept(0, 3), y.torn()), last, -4, 0);
    }

    private static MachineBench unruled() {
        MachineBench x = new MachineBench();
        x.write(48);
        return x;
    }

    private static void lostOrder() {
        C.sentence("Terms: of CHOSE ones first, then DREW, then SAW, then DID ones, of each the latest TICK first, till n are not LOST");
        int[][] want = {{0, 3, 1, 2, 0, 3, 1, 2}, {0, 3, 1, 2, 0, 3, 5, 2}, {0, 3, 5, 2, 0, 3, 5, 2}, {0, 3, 5, 2, 0, 5, 5, 2},
            {0, 5, 5, 2, 0, 5, 5, 2}, {0, 5, 5, 2, 5, 5, 5, 2}, {5, 5, 5, 2, 5, 5, 5, 2}, {5, 5, 5, 2, 5, 5, 5, 5}, {5, 5, 5, 5, 5, 5, 5, 5}};
        for (int lost = 0; lost <= 8; lost++) {
            MachineBench x = two();
            x.write(8 - lost);
            C.row(lost + " are lost", kinds(x), want[lost]);
            C.row("of ticks", Check.of(x.line(0, 1), x.line(3, 1), x.line(4, 1), x.line(7, 1)), 0, 0, 1, 1);
        }
    }

    private static void numbers() {
        C.sentence("Terms: each with a NUMBER (of LOST: 0): its SEAL is of 0");
        MachineBench x = two();
        x.write(0);
        C.due("line 0, which was 15", x.line(0, 3), 31 + 131 * 5 + 1);
        C.due("line 1, which was 1", x.line(1, 3), (31 * (31 + 131 * 5 + 1) + 131 * 5 + 1) % 9973);
    }

    private static void seals() {
        C.sentence("Terms: SEALS: 31 times that ahead (of LINE 0: 1)");
        MachineBench x = new MachineBench();
        x.tell(0, 0);
        C.due("the least line", x.line(0, 3), 31 + 131 * 4 + 1);
        MachineBench least = new MachineBench();
        least.write(48);
        C.due("SAW 0 of tick 0", least.line(0, 3), 32);
        C.sentence("Terms: together) modulo 9973");
        C.row("two of the greatest", Check.of(x.tell(11, 99), x.line(1, 3)), 1, (31 * 556 + 131 * 4 + 17 * 11 + 7 * 99 + 1) % 9973);
        wraps();
    }

    /** A second LINE TOLD whose sum is just at, below or above a multiple of 9973. */
    private static void wraps() {
        int found = 0;
        for (int first = 0; first < 100; first++) {
            for (int tick = 0; tick < 12; tick++) {
                for (int number = 0; number < 100; number++) {
                    int sum = 31 * (31 + 131 * 4 + 7 * first + 1) + 131 * 4 + 17 * tick + 7 * number + 1;
                    if ((sum + 1) % 9973 <= 2) {
                        MachineBench x = new MachineBench();
                        x.tell(0, first);
                        x.tell(tick, number);
                        C.due("a sum of " + sum, x.line(1, 3), sum - sum / 9973 * 9973);
                        C.row("and the next", Check.of(x.tell(0, 0), x.line(2, 3)), 2, (31 * (sum % 9973) + 525) % 9973);
                        found++;
                    }
                }
            }
        }
        C.holds("sums at all three were found", found > 3);
    }

    // ---- 12

    private static void tell() {
        C.sentence("12 of a TICK 0 .. 11; BAD");
        MachineBench x = new MachineBench();
        C.every("tick", -1, x.tell(-1, 0), x.tell(12, 0), x.tell(MIN, 0), x.tell(MAX, 0));
        C.row("0 and 11, of a world of 4", Check.of(x.tell(0, 0), x.tell(11, 0), x.line(0, 1), x.line(1, 1)), 0, 1, 0, 11);
        C.sentence("Terms: TOLD (by a person: 0 .. 99); 12 BAD");
        C.every("number", -1, x.tell(0, -1), x.tell(0, 100), x.tell(0, MIN), x.tell(0, MAX));
        C.row("0 and 99", Check.of(x.tell(0, 0), x.tell(0, 99), x.line(2, 2), x.line(3, 2)), 2, 3, 0, 99);
        C.due("bad ones change nothing", x.count(3), 4);
        C.sentence("12 is written behind all: its number");
        C.due("into no book", new MachineBench().tell(0, 0), 0);
        C.due("behind a play", unruled().tell(0, 0), 16);
        C.sentence("12 FULL: 48 LINES");
        MachineBench y = tellings(47);
        C.row("47 and one, and one more", Check.of(y.tell(5, 7), y.tell(5, 8), y.count(3), y.line(47, 2), y.line(48, 0)), 47, -3, 48, 7, -1);
        y.tear(20);
        C.row("one is torn", Check.of(y.tell(5, 9), y.tell(5, 9), y.line(47, 2)), 47, -3, 9);
        MachineBench z = new MachineBench();
        z.ticks(12);
        z.write(0);
        C.due("LOST ones count", z.tell(0, 0), -3);
        z.ticks(11);
        z.write(48);
        C.row("44 and four", Check.of(z.tell(0, 0), z.tell(0, 0), z.tell(0, 0), z.tell(0, 0), z.tell(0, 0)), 44, 45, 46, 47, -3);
        C.sentence("12 BAD ahead of FULL");
        C.every("bad", -1, z.tell(12, 0), z.tell(-1, 0), z.tell(0, 100), z.tell(0, -1));
    }

    // ---- 13

    private static void line() {
        C.sentence("13 Of a LINE. BAD");
        MachineBench x = two();
        C.every("line", -1, x.line(-1, 0), x.line(8, 0), x.line(8, 2), x.line(8, 3), x.line(8, 4), x.line(47, 0), x.line(48, 0), x.line(MIN, 0), x.line(MAX, 0));
        C.every("what", -1, x.line(0, -1), x.line(0, 5), x.line(0, MIN), x.line(0, MAX));
        C.every("no book", -1, new MachineBench().line(0, 0), new MachineBench().line(0, 4));
        MachineBench y = tellings(48);
        C.row("the last of 48", Check.of(y.line(47, 2), y.line(48, 2)), 47, -1);
        C.sentence("13 CAST: the NUMBER of a LOST one");
        x.write(0);
        C.every("all lines", -12, x.line(0, 2), x.line(1, 2), x.line(2, 2), x.line(7, 2));
        C.row("KIND, TICK, HELD of it", Check.of(x.line(7, 0), x.line(7, 1), x.line(7, 4)), 5, 1, 0);
        x.write(7);
        C.row("of that one alone", Check.of(x.line(6, 2), x.line(5, 2), x.line(2, 2), x.line(7, 2)), -12, 0, 0, 0);
        C.due("BAD ahead of CAST", x.line(6, 5), -1);
    }

    // ---- 14

    private static void forge() {
        C.sentence("14 A LINE has another NUMBER. BAD");
        MachineBench x = two();
        x.tell(3, 50);
        C.every("line", -1, x.forge(-1, 0), x.forge(9, 0), x.forge(47, 0), x.forge(48, 0), x.forge(MIN, 0), x.forge(MAX, 0));
        C.sentence("14 BAD: also one that its KIND can't have: SAW (a SIGHT, 0 .. 15)");
        forgeEdges(x, 0, 15, 15);
        C.sentence("14 BAD: also one that its KIND can't have: DREW (a LOT)");
        forgeEdges(x, 1, 1, 1);
        C.sentence("14 BAD: also one that its KIND can't have: CHOSE (a RULE 0 .. 7, or 8: none)");
        forgeEdges(x, 2, 0, 8);
        C.sentence("14 BAD: also one that its KIND can't have: DID (an ACT)");
        forgeEdges(x, 3, 3, 3);
        C.sentence("14 BAD: also one that its KIND can't have: TOLD (0 .. 99)");
        forgeEdges(x, 8, 50, 99);
        C.sentence("14 BAD (a LOST one: not 0 .. 99); CAST: LOST");
        x.write(0);
        C.every("can't", -1, x.forge(0, -1), x.forge(0, 100), x.forge(3, MIN), x.forge(3, MAX));
        C.every("lost", -12, x.forge(0, 0), x.forge(0, 99), x.forge(1, 2), x.forge(2, 9), x.forge(3, 4), x.forge(7, 16));
        C.due("its number stays 0", x.line(0, 3), 31 + 131 * 5 + 1);
    }

    private static void forgeEdges(MachineBench x, int line, int was, int most) {
        C.every("can't", -1, x.forge(line, -1), x.forge(line, most + 1), x.forge(line, MIN), x.forge(line, MAX));
        C.due("bad ones change nothing", x.line(line, 2), was);
        C.row("0, the most, the same again", Check.of(x.forge(line, 0), x.forge(line, most), x.forge(line, most), x.line(line, 2)), was, 0, most, most);
    }

    // ---- 15, 16

    private static void swap() {
        C.sentence("15 BAD: also one");
        MachineBench x = tellings(3);
        C.every("the same", -1, x.swap(0, 0), x.swap(2, 2));
        C.every("no line", -1, x.swap(0, 3), x.swap(3, 0), x.swap(-1, 0), x.swap(0, -1), x.swap(MIN, 0), x.swap(0, MAX), x.swap(3, 3));
        C.row("bad ones change nothing", told(x), 0, 1, 2);
        C.every("of one line, of none", -1, tellings(1).swap(0, 0), tellings(1).swap(0, 1), tellings(0).swap(0, 1));
        C.sentence("15 Two LINES change places: 1");
        C.row("first and last, either way", Check.of(x.swap(0, 2), x.swap(0, 1)), 1, 1);
        C.row("numbers", told(x), 1, 2, 0);
        C.due("back", x.swap(2, 1), 1);
        C.row("numbers", told(x), 1, 0, 2);
        C.due("seals follow", x.line(0, 3), 31 + 131 * 4 + 7 + 1);
        MachineBench y = tellings(48);
        C.row("of 48", Check.of(y.swap(47, 0), y.swap(0, 48), y.line(0, 2), y.line(47, 2)), 1, -1, 47, 0);
        MachineBench z = two();
        z.write(7);
        C.row("a LOST one, with its tick", Check.of(z.swap(6, 0), z.line(0, 0), z.line(0, 1), z.line(6, 0), z.line(6, 1), z.line(6, 2)), 1, 5, 1, 0, 0, 15);
    }

    private static void tear() {
        C.sentence("16 A LINE is taken out. BAD");
        MachineBench x = tellings(4);
        C.every("no line", -1, x.tear(-1), x.tear(4), x.tear(MIN), x.tear(MAX));
        C.every("of none", -1, tellings(0).tear(0));
        C.sentence("16 (those behind come up): how many are left");
        C.due("the first", x.tear(0), 3);
        C.row("come up", told(x), 1, 2, 3);
        C.due("the last", x.tear(2), 2);
        C.row("none comes up", told(x), 1, 2);
        C.due("not there now", x.tear(2), -1);
        C.row("till none is left", Check.of(x.tear(1), x.tear(0), x.tear(0), x.count(3)), 1, 0, -1, 0);
        C.due("a line is written as the first then", x.tell(0, 9), 0);
        C.due("its seal is a first one's", x.line(0, 3), 31 + 131 * 4 + 7 * 9 + 1);
        MachineBench y = tellings(48);
        C.row("of 48", Check.of(y.tear(48), y.tear(47), y.tear(47), y.tear(0), y.line(45, 2), y.line(46, 2)), -1, 47, -1, 46, 46, -1);
        MachineBench z = two();
        z.write(7);
        C.row("a LOST one", Check.of(z.tear(6), z.count(4), z.line(6, 0), z.line(6, 1)), 7, 0, 2, 1);
    }

    // ---- 17, 18

    private static void give() {
        C.sentence("17 given to a KEEPER. BAD");
        MachineBench x = tellings(2);
        C.every("keeper", -1, x.give(-1), x.give(3), x.give(MIN), x.give(MAX));
        C.due("bad ones change nothing", x.torn(), -2);
        C.row("0 and 2", Check.of(x.give(0), x.give(2), x.kept(0, 1), x.kept(1, 1), x.kept(2, 1)), 2, 2, x.line(1, 3), -4, x.line(1, 3));
        C.sentence("17 (in place of what it holds): how many");
        x.tear(1);
        C.row("fewer", Check.of(x.give(0), x.kept(0, 0), x.kept(0, 1)), 1, x.line(0, 3), -4);
        x.tear(0);
        C.row("none", Check.of(x.give(0), x.kept(0, 0)), 0, -4);
        C.row("of no book", Check.of(new MachineBench().give(2)), 0);
        MachineBench y = tellings(48);
        C.row("48", Check.of(y.give(1), y.kept(1, 47), y.kept(1, 48)), 48, y.line(47, 3), -1);
        C.sentence("Terms: hold SEALS of all LINES as they were when given");
        int first = y.line(0, 3);
        int last = y.line(47, 3);
        y.forge(0, 50);
        y.tear(47);
        C.row("as they were", Check.of(y.kept(1, 0), y.kept(1, 47)), first, last);
    }

    private static void kept() {
        C.sentence("18 A SEAL that a KEEPER holds. BAD");
        MachineBench x = tellings(3);
        x.give(2);
        C.every("keeper", -1, x.kept(-1, 0), x.kept(3, 0), x.kept(MIN, 0), x.kept(MAX, 0));
        C.every("line", -1, x.kept(2, -1), x.kept(2, 48), x.kept(2, MIN), x.kept(2, MAX), x.kept(0, -1), x.kept(0, 48));
        C.sentence("18 NONE: it has none for that LINE");
        C.every("beyond", -4, x.kept(2, 3), x.kept(2, 47), x.kept(0, 0), x.kept(1, 47));
        C.row("the first and the last", Check.of(x.kept(2, 0), x.kept(2, 2)), x.line(0, 3), x.line(2, 3));
        x.tell(0, 3);
        C.due("a line that came later", x.kept(2, 3), -4);
    }

    // ---- 19 and HELD

    private static void held() {
        C.sentence("Terms: HELD is a LINE, if (one, if but one of them does) have its SEAL as it is now");
        MachineBench x = tellings(3);
        C.every("by none", 0, x.line(0, 4), x.line(2, 4));
        x.give(1);
        C.every("by one of one", 1, x.line(0, 4), x.line(2, 4));
        x.forge(1, 9);
        C.row("not as it is now, and those behind", Check.of(x.line(0, 4), x.line(1, 4), x.line(2, 4)), 1, 0, 0);
        C.sentence("Terms: HELD is a LINE, if of KEEPERS that hold SEALS of some LINES two or more have its SEAL");
        x.give(2);
        C.row("one of two", Check.of(x.line(0, 4), x.line(1, 4), x.line(2, 4)), 1, 0, 0);
        x.give(0);
        C.row("two of three", Check.of(x.line(0, 4), x.line(1, 4), x.line(2, 4)), 1, 1, 1);
        x.give(1);
        C.row("three of three", Check.of(x.line(0, 4), x.line(1, 4), x.line(2, 4)), 1, 1, 1);
        x.forge(2, 9);
        x.give(0);
        C.row("one of three", Check.of(x.line(1, 4), x.line(2, 4)), 1, 0);
        C.sentence("Terms: (for LINES beyond those that it holds a KEEPER has none)");
        MachineBench y = tellings(2);
        y.give(0);
        y.tell(0, 2);
        C.row("beyond the one's", Check.of(y.line(1, 4), y.line(2, 4)), 1, 0);
        y.give(1);
        C.row("but one of two has it", Check.of(y.line(1, 4), y.line(2, 4)), 1, 0);
        y.give(2);
        C.row("two of three have it", Check.of(y.line(1, 4), y.line(2, 4)), 1, 1);
        C.sentence("Terms: of KEEPERS that hold SEALS of some LINES: one given no LINES is none of these");
        MachineBench z = new MachineBench();
        z.give(0);
        z.give(1);
        z.tell(0, 0);
        z.give(2);
        C.row("one of one", Check.of(z.line(0, 4), z.torn()), 1, -4);
        staleHolders();
    }

    /** A KEEPER that held LINES and was given none holds none: what it held does not count. */
    private static void staleHolders() {
        MachineBench x = tellings(1);
        x.give(0);
        x.give(1);
        x.forge(0, 5);
        x.give(2);
        C.due("one of three", x.line(0, 4), 0);
        x.tear(0);
        x.give(0);
        x.give(1);
        x.tell(0, 5);
        C.due("one of one", x.line(0, 4), 1);
        x.forge(0, 0);
        C.due("what two held is gone", x.line(0, 4), 0);
    }

    private static void torn() {
        C.sentence("19 NOT: no KEEPER holds anything");
        MachineBench x = tellings(2);
        C.row("none was given, with lines, without", Check.of(x.torn(), new MachineBench().torn()), -2, -2);
        MachineBench empty = new MachineBench();
        empty.give(0);
        empty.tell(0, 0);
        C.due("given no lines", empty.torn(), -2);
        C.sentence("19 NONE: all LINES are HELD");
        x.give(0);
        C.due("all", x.torn(), -4);
        x.tear(1);
        C.due("fewer than it holds", x.torn(), -4);
        x.tear(0);
        C.due("there are none", x.torn(), -4);
        x.give(0);
        C.due("now it holds nothing", x.torn(), -2);
        C.sentence("Terms: TORN is the first LINE that is not HELD");
        MachineBench y = tellings(48);
        y.give(0);
        y.forge(47, 0);
        C.due("the last", y.torn(), 47);
        y.swap(3, 4);
        C.due("swapped", y.torn(), 3);
        y.forge(0, 9);
        C.due("the first", y.torn(), 0);
        C.row("though others behind it are not HELD either", Check.of(y.line(0, 4), y.line(1, 4), y.line(47, 4)), 0, 0, 0);
        MachineBench z = tellings(3);
        z.give(0);
        z.tell(0, 3);
        C.due("the first beyond what it holds", z.torn(), 3);
        z.tear(1);
        C.due("torn", z.torn(), 1);
    }

    // ---- 20

    /** SIGHT 1 at TICK 0 alone: RULE 0 (ACT 1, to STATE 1) then, RULE 1 (ACT 2) behind it. */
    private static MachineBench chain(int room) {
        MachineBench x = Check.machine("0f0:1>1;0s1:2;0l:3");
        x.ticks(3);
        x.world(0, 0, 1);
        x.write(room);
        return x;
    }

    private static void playedAgain() {
        C.sentence("Terms: of each TICK the first SAW, DREW LINE");
        MachineBench x = chain(48);
        x.world(0, 0, 0);
        C.due("the book's sight, not the world's", x.differs(), -4);
        x.swap(0, 4);
        C.due("of tick 0, wherever it stands", x.differs(), -4);
        x.swap(4, 11);
        C.due("of tick 0, in the last line", x.differs(), -4);
        C.sentence("Terms: those that are LOST, or not there: as THE WORLD's");
        MachineBench lost = chain(3);
        C.due("lost, the world's is the same", lost.differs(), -4);
        lost.world(0, 0, 0);
        C.due("lost, the world's is another", lost.differs(), 3);
        MachineBench gone = chain(48);
        gone.tear(0);
        C.due("torn, the world's is the same", gone.differs(), -4);
        gone.world(0, 0, 0);
        C.due("torn, the world's is another", gone.differs(), 1);
        MachineBench lots = lotChain();
        lots.world(0, 1, 0);
        C.due("the book's lot", lots.differs(), -4);
        lots.tear(1);
        C.due("a lot that is torn", lots.differs(), 1);
        lots.world(0, 1, 1);
        C.due("a lot that is torn, the world's is the same", lots.differs(), -4);
        lots.write(2);
        C.due("a lot that is LOST, the world's is the same", lots.differs(), -4);
        lots.world(0, 1, 0);
        C.due("a lot that is LOST, the world's is another", lots.differs(), 3);
    }

    private static MachineBench lotChain() {
        MachineBench x = Check.machine("0l:1");
        x.ticks(1);
        x.world(0, 1, 1);
        x.write(48);
        return x;
    }

    private static void differs() {
        C.sentence("20 NONE");
        C.row("no book, and but lines that were told", Check.of(new MachineBench().differs(), tellings(48).differs()), -4, -4);
        C.row("as played", Check.of(chain(48).differs(), unruled().differs()), -4, -4);
        C.sentence("Terms: DIFFERS: the first CHOSE or DID LINE that is not as played");
        MachineBench x = chain(48);
        x.forge(11, 3);
        C.due("the last line", x.differs(), 11);
        x.forge(10, 8);
        C.due("chose, ahead of it", x.differs(), 10);
        x.forge(2, 8);
        C.due("chose, at tick 0", x.differs(), 2);
        x.swap(11, 0);
        C.due("the first in the book, of a later tick", x.differs(), 0);
        C.sentence("Terms: (of a TICK that THE WORLD has; not LOST)");
        MachineBench y = chain(48);
        y.forge(11, 3);
        y.forge(10, 8);
        y.ticks(2);
        C.due("tick 2 is not there", y.differs(), -4);
        y.forge(7, 3);
        C.due("tick 1 is", y.differs(), 7);
        y.ticks(1);
        C.due("tick 1 is not there", y.differs(), -4);
        y.ticks(3);
        y.write(0);
        Check.rules(y, 0, "0*:3");
        C.due("all are LOST", y.differs(), -4);
        Check.rules(y, 0, "0f0:1>1;0s1:2;0l:3");
        y.world(0, 0, 1);
        y.write(11);
        Check.rules(y, 0, "0f0:1>1;0l:3;0s1:2");
        C.due("the last CHOSE one is LOST, that ahead is not", y.differs(), 6);
        y.write(9);
        Check.rules(y, 0, "0l:3;0f0:1>1;0s1:2");
        C.due("all CHOSE ones are LOST, DID ones are as played", y.differs(), -4);
    }

    // ---- 21

    private static void count() {
        C.sentence("21 How many. BAD");
        MachineBench x = new MachineBench();
        C.every("what", -1, x.count(-1), x.count(6), x.count(MIN), x.count(MAX));
        C.sentence("21 0 TICKS, 1 RULES of MACHINE 0, 2 of MACHINE 1, 3 LINES, 4 LOST ones, 5 THINGS");
        C.row("the least", Check.of(x.ticks(1), x.count(0), x.count(1), x.count(2), x.count(3), x.count(4), x.count(5)), 4, 1, 0, 0, 0, 0, 0);
        Check.rules(x, 0, "0l:1;0l:1;0l:1;0l:1;0l:1;0l:1;0l:1;0l:1");
        x.ticks(12);
        x.write(1);
        for (int i = 0; i < 6; i++) {
            x.thing(1, i, 0);
        }
        C.row("the most", Check.of(x.count(0), x.count(1), x.count(2), x.count(3), x.count(4), x.count(5)), 12, 8, 0, 48, 47, 6);
        Check.rules(x, 1, "0*:1;0l:1;0l:1;0l:1;0l:1;0l:1;0l:1;0l:1");
        C.row("of machine 1", Check.of(x.count(1), x.count(2)), 8, 8);
        C.row("none lost", Check.of(x.write(48), x.count(4)), 0, 0);
    }
}
