/** Promises 1 to 10: a new object, the tape, rules, the world, plays. */
public final class MachinesTest {
    private static final Check C = new Check();

    public static void main(String[] args) {
        newObject();
        type();
        rulesFaults();
        rules();
        rule();
        tests();
        ticks();
        world();
        sights();
        lots();
        play();
        chooses();
        C.end("MachinesTest");
    }

    private static void newObject() {
        MachineBench x = new MachineBench();
        int[] counts = {4, 0, 0, 0, 0, 0};
        for (int i = 0; i < counts.length; i++) {
            C.due("1 count " + i, x.count(i), counts[i]);
        }
        for (int t = 0; t < 4; t++) {
            C.due("1 sight", x.world(t, 0, 0), 0);
            C.due("1 lot", x.world(t, 1, 0), 0);
            C.due("1 mask", x.world(t, 2, 15), 15);
            C.due("1 no rule is chosen", x.play(0, t, 1), 8);
            C.due("1 no rule is chosen by the other", x.play(1, t, 1), 8);
            C.due("1 act", x.play(1, t, 2), 0);
        }
        C.due("1 tick 4", x.world(4, 0, 0), -1);
        C.due("1 no keeper", x.torn(), -2);
        C.due("1 no duty", x.broken(), -2);
        C.due("1 no doing", x.because(), -2);
        for (int s = 0; s < 4; s++) {
            C.due("1 no sheet", x.drop(s), -11);
            if (s < 3) {
                C.due("1 keeper", x.kept(s, 0), -4);
            }
        }
    }

    private static void type() {
        MachineBench x = new MachineBench();
        C.due("2 n 0", x.type(48, 0), -1);
        C.due("2 n 9", x.type(48, 9), -1);
        C.due("2 n -1", x.type(48, -1), -1);
        C.due("2 byte 31", x.type(31, 1), -1);
        C.due("2 byte 127", x.type(127, 1), -1);
        C.due("2 byte 128", x.type(128, 1), -1);
        C.due("2 byte 0 high", x.type(48, 2), -1);
        C.due("2 byte 255 of 8", x.type(-1, 8), -1);
        C.due("2 only the lowest count", x.type(0x0130, 1), 1);
        C.due("2 edges", x.type(0x207E, 2), 3);
        C.due("2 eight", x.type(Check.word("12345678"), 8), 11);
        for (int n = 19; n <= 115; n += 8) {
            C.due("2 " + n, x.type(Check.word("        "), 8), n);
        }
        C.due("2 beyond 120", x.type(Check.word("      "), 6), -3);
        C.due("2 bad ahead of full", x.type(0, 8), -1);
        C.due("2 just 120", x.type(Check.word("     "), 5), 120);
        C.due("2 full", x.type(32, 1), -3);
        C.due("2 bad ahead of full", x.type(31, 1), -1);
        C.due("2 bad n ahead of full", x.type(32, 0), -1);
        C.due("3 a fault at byte 1", x.rules(0), -22);
        C.due("2 empty then", x.type(32, 1), 1);
        C.due("2 the highest first", Check.rules(x, 0, "0*:1>2"), 1);
        C.due("2 the highest first", x.rule(0, 0, 2), 2);
    }

    private static void fault(String text, int place) {
        MachineBench x = Check.machine("3f3:2>1;0*:1");
        C.due("3 '" + text + "'", Check.rules(x, 0, text), -20 - place);
        C.due("3 rules stay after '" + text + "'", x.count(1), 2);
        C.due("3 rules stay after '" + text + "'", x.rule(0, 0, 0), 3);
        C.due("3 rules stay after '" + text + "'", x.chooses(0, 0, 8, 0), 0);
        C.due("3 the tape is empty after '" + text + "'", x.type(48, 1), 1);
    }

    private static void rulesFaults() {
        fault("", 0);
        fault("   ", 3);
        fault("  4", 2);
        fault(";", 0);
        fault("0", 1);
        fault("0  ", 3);
        fault("0:1", 1);
        fault("00*:1", 1);
        fault("0f", 2);
        fault("0f ", 3);
        fault("0f 4:1", 3);
        fault("0s4:1", 2);
        fault("0l0:1", 2);
        fault("0*0:1", 2);
        fault("0a0:1", 1);
        fault("0F0:1", 1);
        fault("0!:1", 2);
        fault("0! !l:1", 3);
        fault("0f0&:1", 4);
        fault("0f0&&l:1", 4);
        fault("0f0|:1", 4);
        fault("0|f0:1", 1);
        fault("0f0!l:1", 3);
        fault("0():1", 2);
        fault("0(l:1", 3);
        fault("0(l;", 3);
        fault("0l):1", 2);
        fault("0(l|(f1)&s0:1", 11);
        fault("0l(f0):1", 2);
        fault("0(((((( l:1", 6);
        fault("0((((( (l:1", 7);
        fault("0(((((!(l:1", 7);
        fault("0l:", 3);
        fault("0l:4", 3);
        fault("0l:1:", 4);
        fault("0l:12", 4);
        fault("0l:1>", 5);
        fault("0l:1>4", 5);
        fault("0l:1>>", 5);
        fault("0l:1>11", 6);
        fault("0l:1>1>1", 6);
        fault("0l:1;", 5);
        fault("0l:1; ", 6);
        fault("0l:1;;", 5);
        fault("0l:1;4l:1", 5);
        fault("0l:1;0l:1;0l:1;0l:1;0l:1;0l:1;0l:1;0l:1 ; 0l:1", 40);
        fault("0l:1;0l:1;0l:1;0l:1;0l:1;0l:1;0l:1;0l:1>2;", 41);
    }

    private static void rules() {
        MachineBench x = new MachineBench();
        Check.type(x, "0*:1");
        C.due("3 machine 2", x.rules(2), -1);
        C.due("3 machine -1", x.rules(-1), -1);
        C.due("3 the tape stays", x.rules(1), 1);
        C.due("3 of the other alone", x.count(2), 1);
        C.due("3 of the other alone", x.count(1), 0);
        C.due("3 the tape is empty", x.rules(1), -20);
        C.due("3 both", Check.rules(x, 0, "0*:2;1l:1"), 2);
        C.due("3 fewer", Check.rules(x, 0, "1l:3"), 1);
        C.due("3 fewer", x.count(1), 1);
        C.due("3 the other's stay", x.play(1, 0, 2), 1);
        C.due("3 eight", Check.rules(x, 1, "0l:1;0l:1;0l:1;0l:1;0l:1;0l:1;0l:1;0l:1"), 8);
        C.due("3 blanks", Check.rules(x, 1, " 1 ! ( f 2 | ! s 3 ) & l : 3 > 2 ; 0 * : 0 "), 2);
        C.due("3 five open, again and again", Check.rules(x, 0, "0(((((l)))))&(((((l)))))|!(!(!(!(!(*))))):1"), 1);
    }

    private static void rule() {
        MachineBench x = Check.machine("3l:2>1;2*:1;1*:0>0");
        int[][] want = {{3, 2, 1}, {2, 1, -4}, {1, 0, 0}};
        for (int r = 0; r < 3; r++) {
            for (int what = 0; what < 3; what++) {
                C.due("4 " + r + " " + what, x.rule(0, r, what), want[r][what]);
            }
        }
        C.due("4 rule 3", x.rule(0, 3, 0), -1);
        C.due("4 rule -1", x.rule(0, -1, 0), -1);
        C.due("4 what 3", x.rule(0, 0, 3), -1);
        C.due("4 what -1", x.rule(0, 0, -1), -1);
        C.due("4 machine 2", x.rule(2, 0, 0), -1);
        C.due("4 machine -1", x.rule(-1, 0, 0), -1);
        C.due("4 the other has none", x.rule(1, 0, 0), -1);
    }

    /** Bits of the STATES 0 .. 3 (at SIGHT, LOT) at which a TEST holds. */
    private static void holds(String test, int sight, int lot, int states) {
        MachineBench x = Check.machine("0" + test + ":1");
        for (int s = 0; s < 4; s++) {
            C.due("10 " + test + " at " + s + " " + sight + " " + lot, x.chooses(0, s, sight, lot), (states >> s & 1) == 1 ? 0 : 8);
        }
    }

    private static void tests() {
        for (int f = 0; f < 4; f++) {
            holds("f" + f, 1 << f, 0, 15);
            holds("f" + f, 15 - (1 << f), 1, 0);
            holds("!f" + f, 15 - (1 << f), 1, 15);
            holds("s" + f, 5, 1, 1 << f);
            holds("!s" + f, 5, 1, 15 - (1 << f));
        }
        holds("*", 0, 0, 15);
        holds("!*", 15, 1, 0);
        holds("l", 0, 1, 15);
        holds("l", 15, 0, 0);
        holds("s0|s1&l", 0, 0, 1);
        holds("s0|s1&l", 0, 1, 3);
        holds("(s0|s1)&l", 0, 0, 0);
        holds("s0&l|s1", 0, 0, 2);
        holds("!s0&s1", 0, 0, 2);
        holds("!(s0&s1)", 0, 0, 15);
        holds("!(s0|s1)&!(s2&l)", 0, 1, 8);
        holds("!s0|s0&f1", 2, 0, 15);
        holds("s1|(s2|(s3&(f0|(l|f3))))", 0, 0, 6);
        holds("s1|(s2|(s3&(f0|(l|f3))))", 8, 0, 14);
    }

    private static void ticks() {
        MachineBench x = new MachineBench();
        C.due("5 0", x.ticks(0), -1);
        C.due("5 13", x.ticks(13), -1);
        C.due("5 -1", x.ticks(-1), -1);
        C.due("5 12", x.ticks(12), 4);
        x.world(11, 0, 9);
        x.world(11, 1, 1);
        x.world(11, 2, 3);
        x.world(0, 0, 7);
        C.due("5 12 again", x.ticks(12), 12);
        C.due("5 they stay", x.world(11, 0, 9), 9);
        C.due("5 1", x.ticks(1), 12);
        C.due("5 gone", x.world(1, 0, 0), -1);
        C.due("5 back", x.ticks(12), 1);
        C.due("5 new sight", x.world(11, 0, 0), 0);
        C.due("5 new lot", x.world(11, 1, 0), 0);
        C.due("5 new mask", x.world(11, 2, 0), 15);
        C.due("5 tick 0 stays", x.world(0, 0, 0), 7);
        C.due("5 count", x.count(0), 12);
    }

    private static void world() {
        MachineBench x = new MachineBench();
        C.due("6 sight", x.world(3, 0, 15), 0);
        C.due("6 sight", x.world(3, 0, 4), 15);
        C.due("6 lot", x.world(3, 1, 1), 0);
        C.due("6 lot", x.world(3, 1, 0), 1);
        C.due("6 mask", x.world(3, 2, 0), 15);
        C.due("6 mask", x.world(3, 2, 15), 0);
        int[][] bad = {{-1, 0, 0}, {4, 0, 0}, {0, -1, 0}, {0, 3, 0}, {0, 0, -1}, {0, 0, 16}, {0, 1, 2}, {0, 1, -1}, {0, 2, 16}, {0, 2, -1}};
        for (int[] b : bad) {
            C.due("6 bad " + b[0] + " " + b[1] + " " + b[2], x.world(b[0], b[1], b[2]), -1);
        }
        C.due("6 unchanged", x.world(0, 0, 0), 0);
    }

    private static void sights() {
        MachineBench x = new MachineBench();
        C.due("7 nothing", x.sights(0, 1, 0), -11);
        C.due("7 lane 0 is bad ahead of null", x.sights(0, 0, 0), -1);
        C.due("7 lane 3", x.sights(0, 3, 0), -1);
        C.due("7 sheet -1", x.sights(-1, 1, 0), -1);
        C.due("7 sheet 4", x.sights(4, 1, 0), -1);
        x.sheet(0, 2, 5);
        x.sheet(1, 0, 9);
        int[] values = {9, 15, 3, 1, 16};
        for (int i = 0; i < 5; i++) {
            x.item(0, 2, i, values[i]);
        }
        C.due("7 cast", x.sights(0, 1, -1), -12);
        C.due("7 cast of booleans", x.sights(1, 1, 0), -12);
        C.due("7 below", x.sights(0, 2, -1), -13);
        C.due("7 index ahead of not", x.sights(0, 2, 2), -13);
        C.due("7 far", x.sights(0, 2, Integer.MAX_VALUE), -13);
        C.due("7 far below", x.sights(0, 2, Integer.MIN_VALUE), -13);
        C.due("7 not", x.sights(0, 2, 1), -2);
        for (int t = 0; t < 4; t++) {
            C.due("7 unchanged", x.world(t, 0, 0), 0);
        }
        C.due("7 all", x.sights(0, 2, 0), 4);
        for (int t = 0; t < 4; t++) {
            C.due("7 tick " + t, x.world(t, 0, 0), values[t]);
        }
        x.item(0, 2, 4, -1);
        C.due("7 below 0", x.sights(0, 2, 1), -2);
        x.ticks(1);
        C.due("7 one", x.sights(0, 2, 3), 1);
        C.due("7 one", x.world(0, 0, 0), 1);
        x.sheet(2, 1, 1);
        x.item(2, 1, 0, 256 + 7);
        C.due("7 the lowest bits of a byte", x.sights(2, 1, 0), 1);
        C.due("7 the lowest bits of a byte", x.world(0, 0, 0), 7);
        x.item(2, 1, 0, 255);
        C.due("7 a byte below 0", x.sights(2, 1, 0), -2);
        x.sheet(2, 1, 0);
        C.due("7 no items", x.sights(2, 1, 0), -13);
    }

    private static void lots() {
        MachineBench x = new MachineBench();
        C.due("8 nothing", x.lots(0, 0), -11);
        C.due("8 sheet 4", x.lots(4, 0), -1);
        C.due("8 sheet -1", x.lots(-1, 0), -1);
        x.sheet(0, 0, 6);
        x.sheet(1, 1, 1);
        x.item(0, 0, 1, 2);
        x.item(0, 0, 2, -1);
        x.item(0, 0, 5, 256);
        C.due("8 cast ahead of index", x.lots(1, 9), -12);
        C.due("8 below", x.lots(0, -1), -13);
        C.due("8 beyond", x.lots(0, 3), -13);
        C.due("8 far", x.lots(0, Integer.MAX_VALUE), -13);
        C.due("8 unchanged", x.world(1, 1, 0), 0);
        C.due("8 all", x.lots(0, 2), 2);
        int[] want = {1, 0, 0, 1};
        for (int t = 0; t < 4; t++) {
            C.due("8 tick " + t, x.world(t, 1, 0), want[t]);
        }
        C.due("8 from 0", x.lots(0, 0), 2);
        C.due("8 from 0", x.world(2, 1, 0), 1);
    }

    private static void play() {
        MachineBench x = Check.machine("0s0&f0:1>1;1s1&l:2>3;2s3:3;3f3:2");
        Check.rules(x, 1, "0!l:3>2");
        x.ticks(5);
        int[][] world = {{8, 0}, {1, 1}, {0, 0}, {0, 1}, {8, 0}};
        int[][] one = {{0, 3, 2}, {0, 0, 1}, {1, 8, 0}, {1, 1, 2}, {3, 2, 3}};
        int[][] other = {{0, 0, 3}, {2, 8, 0}, {2, 0, 3}, {2, 8, 0}, {2, 0, 3}};
        for (int t = 0; t < 5; t++) {
            x.world(t, 0, world[t][0]);
            x.world(t, 1, world[t][1]);
        }
        for (int t = 0; t < 5; t++) {
            for (int what = 0; what < 3; what++) {
                C.due("9 one " + t + " " + what, x.play(0, t, what), one[t][what]);
                C.due("9 other " + t + " " + what, x.play(1, t, what), other[t][what]);
            }
        }
        int[][] bad = {{-1, 0, 0}, {2, 0, 0}, {0, -1, 0}, {0, 5, 0}, {0, 0, -1}, {0, 0, 3}};
        for (int[] b : bad) {
            C.due("9 bad", x.play(b[0], b[1], b[2]), -1);
        }
    }

    private static void chooses() {
        MachineBench x = Check.machine("0s2&f1&l:1;0f1:1;0s2:1");
        C.due("10 first", x.chooses(0, 2, 2, 1), 0);
        C.due("10 second", x.chooses(0, 2, 2, 0), 1);
        C.due("10 third", x.chooses(0, 2, 13, 1), 2);
        C.due("10 none", x.chooses(0, 3, 13, 1), 8);
        C.due("10 other", x.chooses(1, 3, 13, 1), 8);
        int[][] bad = {{-1, 0, 0, 0}, {2, 0, 0, 0}, {0, -1, 0, 0}, {0, 4, 0, 0}, {0, 0, -1, 0}, {0, 0, 16, 0}, {0, 0, 0, -1}, {0, 0, 0, 2}};
        for (int[] b : bad) {
            C.due("10 bad", x.chooses(b[0], b[1], b[2], b[3]), -1);
        }
    }
}
