/** The boundary cases of promises 1 to 10 and of what they use of the chapter 'Terms': a method for each sentence. */
public final class EdgesMachinesTest {
    private static final Check C = new Check();
    private static final int MIN = Integer.MIN_VALUE, MAX = Integer.MAX_VALUE;
    private static final String EIGHT = "0l:1;0l:1;0l:1;0l:1;0l:1;0l:1;0l:1;0l:1";

    public static void main(String[] args) {
        newObject();
        manyCalls();
        typeCounts();
        typeBytes();
        typeFull();
        texts();
        blanks();
        rulesCalls();
        rule();
        rulesPlay();
        ticks();
        world();
        sights();
        lots();
        play();
        chooses();
        C.end("EdgesMachinesTest");
    }

    // ---- 1

    private static void newObject() {
        C.sentence("1 No RULES");
        MachineBench x = new MachineBench();
        C.every("no rule of either", -1, x.rule(0, 0, 0), x.rule(1, 0, 0));
        C.every("none is counted", 0, x.count(1), x.count(2));
        C.every("none is chosen", 8, x.chooses(0, 0, 0, 0), x.chooses(0, 3, 15, 1), x.chooses(1, 0, 0, 0), x.chooses(1, 3, 15, 1));
        C.sentence("1 a WORLD of 4 TICKS");
        C.due("count", x.count(0), 4);
        C.row("the last and one beyond", Check.of(x.world(3, 0, 0), x.world(4, 0, 0)), 0, -1);
        C.sentence("1 no BOOK");
        C.every("no line", -1, x.line(0, 0), x.forge(0, 0), x.tear(0), x.swap(0, 1));
        C.every("none is counted", 0, x.count(3), x.count(4));
        C.sentence("Terms: each with a SIGHT, a LOT (0 at first), and a MASK (15 at first)");
        for (int t = 0; t < 4; t++) {
            C.row("tick " + t, Check.of(x.world(t, 0, 1), x.world(t, 1, 1), x.world(t, 2, 1)), 0, 0, 15);
        }
        C.sentence("Terms: SHEETS 0 .. 3 hold nothing (at first)");
        C.every("all four", -11, x.drop(0), x.drop(1), x.drop(2), x.drop(3));
        C.sentence("Terms: KEEPERS 0 .. 2 hold SEALS (none at first)");
        C.every("all three", -4, x.kept(0, 0), x.kept(1, 0), x.kept(2, 0));
        C.sentence("1 A new object: all of it is its own");
        MachineBench full = Check.machine(EIGHT);
        full.ticks(12);
        full.write(0);
        full.give(0);
        full.thing(1, 0, 0);
        full.doing(0, 0);
        full.sheet(0, 0, 9);
        Check.duty(full, "*");
        full.type(48, 1);
        MachineBench y = new MachineBench();
        C.row("counts", Check.of(y.count(0), y.count(1), y.count(2), y.count(3), y.count(4), y.count(5)), 4, 0, 0, 0, 0, 0);
        C.row("told", Check.of(y.because(), y.broken(), y.torn(), y.drop(0), y.type(48, 1)), -2, -2, -2, -11, 1);
    }

    private static void manyCalls() {
        C.sentence("An object is used for at most 512 calls after it has been made");
        MachineBench x = new MachineBench();
        for (int call = 1; call <= 508; call += 4) {
            C.row("calls from " + call + " on", Check.of(x.type(Check.word("3*:2"), 4), x.rules(1), x.play(1, 3, 2), x.ticks(13)), 4, 1, 2, -1);
        }
        C.row("the last four", Check.of(x.write(0), x.give(2), x.torn(), x.sheet(3, 2, 48)), 16, 16, -4, 48);
    }

    // ---- 2

    private static void typeCounts() {
        C.sentence("2 The n lowest bytes (1 .. 8) of w; BAD: n");
        MachineBench x = new MachineBench();
        C.every("n", -1, x.type(48, 0), x.type(48, -1), x.type(Check.word("00000000"), 9), x.type(48, MIN), x.type(48, MAX));
        for (int n = 1; n <= 8; n++) {
            MachineBench y = new MachineBench();
            C.due("n " + n, y.type(Check.word("        "), n), n);
            C.due("n " + n + " again", y.type(Check.word("        "), n), 2 * n);
            C.due("as many blanks", y.rules(0), -20 - 2 * n);
        }
        C.sentence("2 of these the highest first, come behind THE TAPE");
        Check.type(x, "0f");
        C.due("behind", x.type(Check.word("xx2:3>1"), 5), 7);
        C.due("'0f2:3>1'", x.rules(0), 1);
        C.row("'0f2:3>1'", Check.of(x.rule(0, 0, 0), x.rule(0, 0, 1), x.rule(0, 0, 2)), 0, 3, 1);
        C.due("eight", x.type(Check.word("1s2&l:2>"), 8), 8);
        C.due("one", x.type(Check.word("3"), 1), 9);
        C.due("'1s2&l:2>3'", x.rules(0), 1);
        C.row("'1s2&l:2>3'", Check.of(x.rule(0, 0, 0), x.rule(0, 0, 1), x.rule(0, 0, 2)), 1, 2, 3);
    }

    private static void typeBytes() {
        C.sentence("2 BAD: a byte not 32 .. 126");
        MachineBench x = new MachineBench();
        int[] bad = {0, 31, 127, 128, 160, 255};
        for (int b : bad) {
            for (int at = 0; at < 8; at++) {
                long w = Check.word("00000000") & ~(255L << 8 * at) | (long) b << 8 * at;
                C.due("byte " + b + " at " + at, x.type(w, 8), -1);
            }
        }
        C.due("none of these came", x.type(48, 1), 1);
        for (int at = 0; at < 8; at++) {
            MachineBench y = new MachineBench();
            C.due("32 at " + at, y.type(Check.word("00000000") & ~(255L << 8 * at) | 32L << 8 * at, 8), 8);
            C.due("126 at " + at, y.type(Check.word("00000000") & ~(255L << 8 * at) | 126L << 8 * at, 8), 16);
        }
        C.sentence("2 The n lowest bytes: others are not looked at");
        for (int n = 1; n < 8; n++) {
            C.due("n " + n, new MachineBench().type(-1L << 8 * n | Check.word("00000000") >>> 8 * (8 - n), n), n);
            C.due("n " + n + ", the lowest one beyond is bad", new MachineBench().type(Check.word("00000000") >>> 8 * (8 - n), n + 1), -1);
        }
    }

    private static MachineBench tapeOf(int n) {
        MachineBench x = new MachineBench();
        Check.type(x, " ".repeat(n));
        return x;
    }

    private static void typeFull() {
        C.sentence("2 FULL: 120");
        C.row("119 and 1, and 1 more", twice(tapeOf(119), 1, 1), 120, -3);
        C.row("112 and 8, and 8 more", twice(tapeOf(112), 8, 8), 120, -3);
        C.row("113 and 8 do not go, 7 do", twice(tapeOf(113), 8, 7), -3, 120);
        C.row("119 and 2 do not go, 1 does", twice(tapeOf(119), 2, 1), -3, 120);
        C.due("what is full changes nothing", overfull().rules(0), -140);
        MachineBench x = overfull();
        x.rules(0);
        C.due("empty again", x.type(32, 1), 1);
        C.sentence("2 BAD ahead of FULL");
        MachineBench y = tapeOf(120);
        C.every("bad", -1, y.type(32, 0), y.type(32, 9), y.type(31, 1), y.type(127, 1));
    }

    private static int[] twice(MachineBench x, int n, int m) {
        return Check.of(x.type(Check.word("        "), n), x.type(Check.word("        "), m));
    }

    private static MachineBench overfull() {
        MachineBench x = tapeOf(120);
        x.type(48, 1);
        return x;
    }

    // ---- 3: texts

    private static void takes(String text, int rules) {
        C.due("'" + text + "'", Check.rules(new MachineBench(), 0, text), rules);
    }

    private static void fault(String text, int place) {
        C.due("'" + text + "'", Check.rules(new MachineBench(), 0, text), -20 - place);
    }

    /** A byte just below and just above a digit 0 .. 3, and other bytes, at a place where only such a digit may stand. */
    private static void digitAt(String ahead, String behind) {
        for (char c = 33; c <= 126; c++) {
            if (c >= '0' && c <= '3') {
                takes(ahead + c + behind, 1);
            } else {
                fault(ahead + c + behind, ahead.length());
            }
        }
        fault(ahead, ahead.length());
    }

    private static void texts() {
        C.sentence("Terms: a MAKER (a digit 0 .. 3)");
        digitAt("", "*:1");
        C.sentence("Terms: an ACT (a digit 0 .. 3)");
        digitAt("0*:", "");
        C.sentence("Terms: perhaps > and a STATE (a digit 0 .. 3)");
        digitAt("0*:1>", "");
        takes("0*:1", 1);
        fault("0*:1>1>1", 6);
        C.sentence("Terms: f and a digit 0 .. 3");
        digitAt("0f", ":1");
        C.sentence("Terms: s and a digit 0 .. 3");
        digitAt("0s", ":1");
        C.sentence("Terms: CLAIM: perhaps !, then f, s, l, * or ( and nothing else");
        for (char c = 33; c <= 126; c++) {
            fault("0l&" + c + "?", "fsl*(!".indexOf(c) >= 0 ? 4 : 3);
        }
        fault("0!!l:1", 2);
        takes("0!l:1", 1);
        takes("0!(!(!l)):1", 1);
        C.sentence("Terms: CASES with | between; CLAIMS with & between");
        takes("0l|l&l|l:1", 1);
        for (String text : new String[] {"0|l:1", "0&l:1"}) {
            fault(text, 1);
        }
        for (String text : new String[] {"0l||l:1", "0l&&l:1", "0l|&l:1", "0l&|l:1", "0l|:1", "0l&:1"}) {
            fault(text, 3);
        }
        for (String text : new String[] {"0ll:1", "0l*:1", "0lf0:1", "0l!l:1", "0l(l):1", "0l)", "0l;", "0l>"}) {
            fault(text, 2);
        }
        C.sentence("Terms: a TEST in ( ) (5 open at once at most)");
        takes("0(((((l))))):1", 1);
        fault("0((((((l)))))):1", 6);
        takes("0(((((l)))))&(((((l)))))|(((((l))))):1", 1);
        fault("0(((((l)&((l:1", 10);
        takes("0(((((l)&(l))))):1", 1);
        takes("0(((((l)))))" + ":1;0(((((l))))):1", 2);
        fault("0(((((l)))))):1", 12);
        fault("0(((((l)))):1", 11);
        fault("0():1", 2);
        fault("0(!):1", 3);
        C.sentence("Terms: 1 to 8 CLAUSES with ; between; a ninth CLAUSE's ; can't");
        takes("0l:1", 1);
        takes(EIGHT, 8);
        fault(EIGHT + ";0l:1", 39);
        fault(EIGHT + ";", 39);
        fault(EIGHT + " ;", 40);
        takes(EIGHT + ">2", 8);
        fault(EIGHT + ">2;", 41);
        fault("0l:1;", 5);
        fault(";0l:1", 0);
        fault("0l:1;;0l:1", 5);
        fault("0l:1,0l:1", 4);
    }

    private static void blanks() {
        C.sentence("Terms: FAULTS: -20 less the place of the first byte (behind blanks) that can't stand there");
        fault("x", 0);
        fault(" x", 1);
        fault("   x", 3);
        fault("0   x", 4);
        fault("0 f 4", 4);
        fault("0 l : 1   9", 10);
        fault(" ".repeat(119) + "x", 119);
        fault("0" + "l|".repeat(59) + "|", 119);
        fault("4x5", 0);
        C.sentence("Terms: (the end: how many bytes there are)");
        fault("", 0);
        fault(" ", 1);
        fault("0", 1);
        fault("0  ", 3);
        fault("0l:1;   ", 8);
        fault("0(l ", 4);
        fault(" ".repeat(120), 120);
        fault("0" + "l|".repeat(59), 119);
        fault("0" + "l|".repeat(59) + " ", 120);
        C.sentence("Terms: bytes 32 count for nothing");
        takes(" 0 ! f 3 & ( s 0 | * ) : 1 > 2 ; 1 l : 0 ", 2);
        takes(" ".repeat(116) + "0l:1", 1);
        takes("0l:1" + " ".repeat(116), 1);
        takes("0" + " ".repeat(116) + "l:1", 1);
        MachineBench x = Check.machine(" 1 f   2 : 3 >   1 ");
        C.row("the same rule", Check.of(x.rule(0, 0, 0), x.rule(0, 0, 1), x.rule(0, 0, 2)), 1, 3, 1);
        C.row("the same test", Check.of(x.chooses(0, 0, 4, 0), x.chooses(0, 0, 11, 0)), 0, 8);
    }

    private static void rulesCalls() {
        C.sentence("3 BAD (THE TAPE stays)");
        MachineBench x = new MachineBench();
        Check.type(x, "3*:2");
        C.every("machine", -1, x.rules(-1), x.rules(2), x.rules(MIN), x.rules(MAX));
        C.due("it stays", x.type(Check.word(">1"), 2), 6);
        C.due("machine 1", x.rules(1), 1);
        C.row("of machine 1 alone", Check.of(x.count(1), x.count(2), x.rule(1, 0, 0), x.rule(1, 0, 2)), 0, 1, 3, 1);
        C.sentence("3 THE TAPE, which is empty then");
        C.due("behind rules", x.type(48, 1), 1);
        C.due("a fault", x.rules(0), -21);
        C.due("behind a fault", x.type(48, 1), 1);
        x.rules(0);
        C.row("an empty tape is a fault", Check.of(x.rules(0), x.rules(1)), -20, -20);
        C.sentence("3 a FAULT: RULES that were stay");
        Check.rules(x, 0, "2f0:3>1;1*:2");
        String[] faults = {"", "0", "0*:1;", "0*:1;0*:1;0*:1;x", EIGHT + ";", "0s3:0>3;0!"};
        for (String text : faults) {
            C.holds("'" + text + "' is a fault", Check.rules(x, 0, text) <= -20);
            C.row("behind '" + text + "'", Check.of(x.count(1), x.rule(0, 0, 0), x.rule(0, 0, 1), x.rule(0, 0, 2), x.rule(0, 1, 1), x.rule(0, 1, 2)),
                2, 2, 3, 1, 2, -4);
            C.row("tests behind '" + text + "'", Check.of(x.chooses(0, 0, 1, 0), x.chooses(0, 3, 14, 1), x.chooses(0, 3, 15, 1)), 0, 1, 0);
        }
        C.sentence("3 is RULES of a MACHINE: how many: those ahead are not there");
        C.due("eight", Check.rules(x, 0, EIGHT), 8);
        C.due("one", Check.rules(x, 0, "0f3:2"), 1);
        C.row("one", Check.of(x.count(1), x.rule(0, 1, 0), x.chooses(0, 0, 7, 1), x.chooses(0, 0, 8, 1)), 1, -1, 8, 0);
        C.due("eight again", Check.rules(x, 0, EIGHT), 8);
        C.row("machine 1's stay", Check.of(x.count(2), x.rule(1, 0, 0)), 1, 3);
    }

    // ---- 4

    private static void rule() {
        C.sentence("4 Of a RULE: BAD");
        MachineBench x = Check.machine(EIGHT);
        Check.rules(x, 1, "3*:2>3");
        C.every("machine", -1, x.rule(-1, 0, 0), x.rule(2, 0, 0), x.rule(MIN, 0, 0), x.rule(MAX, 0, 0));
        C.every("rule", -1, x.rule(0, -1, 0), x.rule(0, 8, 0), x.rule(1, 1, 0), x.rule(0, MIN, 0), x.rule(0, MAX, 0));
        C.every("what", -1, x.rule(0, 0, -1), x.rule(0, 0, 3), x.rule(0, 0, MIN), x.rule(0, 0, MAX));
        C.row("the first and the last", Check.of(x.rule(0, 0, 1), x.rule(0, 7, 1), x.rule(1, 0, 0), x.rule(1, 0, 1)), 1, 1, 3, 2);
        C.sentence("4 2 STATE (NONE: as it is)");
        Check.rules(x, 0, "0*:3;0*:3>0;0*:3>3");
        C.row("states", Check.of(x.rule(0, 0, 2), x.rule(0, 1, 2), x.rule(0, 2, 2)), -4, 0, 3);
    }

    private static void rulesPlay() {
        C.sentence("Terms: The first RULE whose TEST holds is CHOSEN");
        MachineBench x = Check.machine("0f0:1;0f0:2;0f0:3;0f1:3;0f1:3;0f1:3;0f1:3;0*:2");
        C.row("of several", Check.of(x.chooses(0, 0, 3, 0), x.chooses(0, 0, 2, 0), x.chooses(0, 0, 0, 0)), 0, 3, 7);
        C.sentence("Terms: none: ACT 0, as it is");
        Check.rules(x, 0, "0f0:3>2");
        x.world(1, 0, 1);
        C.row("acts", Check.of(x.play(0, 0, 2), x.play(0, 1, 2), x.play(0, 2, 2)), 0, 3, 0);
        C.row("rules", Check.of(x.play(0, 0, 1), x.play(0, 1, 1), x.play(0, 2, 1)), 8, 0, 8);
        C.row("states", Check.of(x.play(0, 0, 0), x.play(0, 1, 0), x.play(0, 2, 0), x.play(0, 3, 0)), 0, 0, 2, 2);
        C.sentence("Terms: perhaps > and a STATE (without: as it is)");
        Check.rules(x, 0, "0f0:3>3;0s3:1;0*:2");
        C.row("states", Check.of(x.play(0, 0, 0), x.play(0, 1, 0), x.play(0, 2, 0), x.play(0, 3, 0)), 0, 0, 3, 3);
        Check.rules(x, 0, "0f0:3>3;0s3:1>0;0*:2");
        C.row("to 0", Check.of(x.play(0, 2, 0), x.play(0, 3, 0)), 3, 0);
    }

    // ---- 5, 6

    private static void ticks() {
        C.sentence("5 1 to 12 TICKS; BAD");
        MachineBench x = new MachineBench();
        C.every("n", -1, x.ticks(0), x.ticks(13), x.ticks(-1), x.ticks(MIN), x.ticks(MAX));
        C.due("bad ones change nothing", x.count(0), 4);
        C.row("how many it had", Check.of(x.ticks(1), x.ticks(12), x.ticks(12), x.count(0)), 4, 1, 12, 12);
        C.row("the last and one beyond", Check.of(x.world(11, 0, 0), x.world(12, 0, 0)), 0, -1);
        x.ticks(1);
        C.row("one alone", Check.of(x.world(0, 0, 0), x.world(1, 0, 0), x.play(0, 0, 0), x.play(0, 1, 0)), 0, -1, 0, -1);
        C.sentence("5 (those that come have SIGHT 0, LOT 0, MASK 15)");
        MachineBench y = new MachineBench();
        y.ticks(12);
        for (int t = 0; t < 12; t++) {
            C.row("tick " + t, Check.of(y.world(t, 0, 15), y.world(t, 1, 1), y.world(t, 2, 0)), 0, 0, 15);
        }
        y.ticks(12);
        C.row("as many: none comes", Check.of(y.world(11, 0, 15), y.world(11, 1, 1), y.world(11, 2, 0)), 15, 1, 0);
        y.ticks(5);
        y.ticks(8);
        for (int t = 0; t < 8; t++) {
            C.row("tick " + t + " of 12, 5, 8", Check.of(y.world(t, 0, 15), y.world(t, 1, 1), y.world(t, 2, 0)), t < 5 ? 15 : 0, t < 5 ? 1 : 0, t < 5 ? 0 : 15);
        }
    }

    private static void world() {
        C.sentence("6 of a TICK: what it was. BAD");
        MachineBench x = new MachineBench();
        C.every("tick", -1, x.world(-1, 0, 0), x.world(4, 0, 0), x.world(MIN, 1, 0), x.world(MAX, 2, 0));
        C.every("what", -1, x.world(0, -1, 0), x.world(0, 3, 0), x.world(0, MIN, 0), x.world(0, MAX, 0));
        C.row("what it was", Check.of(x.world(0, 0, 0), x.world(0, 1, 0), x.world(0, 2, 15)), 0, 0, 15);
        C.sentence("Terms: a SIGHT is four FEATURES (bits, 0 .. 15)");
        C.every("sight", -1, x.world(3, 0, -1), x.world(3, 0, 16), x.world(3, 0, MIN), x.world(3, 0, MAX));
        C.row("0 and 15", Check.of(x.world(3, 0, 15), x.world(3, 0, 0), x.world(3, 0, 0)), 0, 15, 0);
        C.sentence("Terms: a LOT is 0 or 1");
        C.every("lot", -1, x.world(3, 1, -1), x.world(3, 1, 2), x.world(3, 1, MIN), x.world(3, 1, MAX));
        C.row("0 and 1", Check.of(x.world(3, 1, 1), x.world(3, 1, 0), x.world(3, 1, 0)), 0, 1, 0);
        C.sentence("Terms: a MASK of FEATURES");
        C.every("mask", -1, x.world(3, 2, -1), x.world(3, 2, 16), x.world(3, 2, MIN), x.world(3, 2, MAX));
        C.row("0 and 15", Check.of(x.world(3, 2, 0), x.world(3, 2, 15), x.world(3, 2, 15)), 15, 0, 15);
    }

    // ---- 7, 8

    /** SHEETS: 0 bytes 1, 2, .. 5; 1 ints 11, 12, .. 15; 2 booleans 1, 0, 1, 0, 1; 3 nothing. */
    private static MachineBench withSheets() {
        MachineBench x = new MachineBench();
        for (int s = 0; s < 3; s++) {
            x.sheet(s, (s + 1) % 3, 5);
        }
        for (int i = 0; i < 5; i++) {
            x.item(0, 1, i, 1 + i);
            x.item(1, 2, i, 11 + i);
            x.item(2, 0, i, 1 - i % 2);
        }
        return x;
    }

    private static void sights() {
        C.sentence("7 from a SHEET, taken as a row of a LANE (1, 2). BAD");
        MachineBench x = withSheets();
        C.every("sheet", -1, x.sights(-1, 1, 0), x.sights(4, 1, 0), x.sights(MIN, 1, 0), x.sights(MAX, 1, 0));
        C.every("lane", -1, x.sights(0, 0, 0), x.sights(2, 0, 0), x.sights(0, 3, 0), x.sights(0, -1, 0), x.sights(0, MIN, 0), x.sights(0, MAX, 0));
        C.row("lanes 1, 2", Check.of(x.sights(0, 1, 0), x.sights(1, 2, 0)), 4, 4);
        C.sentence("7 NULL");
        C.every("nothing", -11, x.sights(3, 1, 0), x.sights(3, 2, 0), x.sights(3, 1, -1), x.sights(3, 2, 99));
        C.sentence("7 CAST");
        C.every("another lane", -12, x.sights(0, 2, 0), x.sights(1, 1, 0), x.sights(2, 1, 0), x.sights(2, 2, 0), x.sights(0, 2, -1), x.sights(1, 1, 99));
        C.sentence("7 from item i on; INDEX");
        C.every("i", -13, x.sights(0, 1, -1), x.sights(0, 1, 2), x.sights(1, 2, 2), x.sights(0, 1, 5), x.sights(0, 1, MIN), x.sights(0, 1, MAX), x.sights(0, 1, MAX - 2));
        C.row("the last that go", Check.of(x.sights(0, 1, 1), x.world(0, 0, 0), x.world(3, 0, 0)), 4, 2, 5);
        x.sheet(3, 1, 0);
        C.due("no items", x.sights(3, 1, 0), -13);
        C.sentence("7 SIGHTS of all TICKS: how many");
        MachineBench y = withSheets();
        y.ticks(5);
        C.row("all five", Check.of(y.sights(1, 2, 0), y.sights(1, 2, 1)), 5, -13);
        y.ticks(1);
        C.row("but one", Check.of(y.sights(1, 2, 4), y.sights(1, 2, 5), y.world(0, 0, 0)), 1, -13, 15);
        notSights();
    }

    private static void notSights() {
        C.sentence("7 NOT: one is not 0 .. 15");
        for (int at = 0; at < 4; at++) {
            for (int v : new int[] {16, -1, 127, -128, 256, MIN, MAX}) {
                MachineBench x = withSheets();
                x.sights(0, 1, 0);
                x.item(1, 2, at, v);
                C.due(v + " at " + at, x.sights(1, 2, 0), -2);
                C.row("what is not changes nothing", Check.of(x.world(0, 0, 0), x.world(1, 0, 0), x.world(2, 0, 0), x.world(3, 0, 0)), 1, 2, 3, 4);
            }
        }
        MachineBench x = withSheets();
        x.item(1, 2, 0, 0);
        x.item(1, 2, 4, 16);
        C.row("0 and 15 are; what is beyond all ticks is not looked at", Check.of(x.sights(1, 2, 0), x.sights(1, 2, 1)), 4, -2);
        x.item(0, 1, 0, 16);
        C.row("bytes: what is ahead of i is not looked at", Check.of(x.sights(0, 1, 0), x.sights(0, 1, 1)), -2, 4);
        C.sentence("7 INDEX ahead of NOT");
        x.item(1, 2, 2, 16);
        C.due("16 and beyond the end", x.sights(1, 2, 2), -13);
    }

    private static void lots() {
        C.sentence("8 from a SHEET. BAD");
        MachineBench x = withSheets();
        C.every("sheet", -1, x.lots(-1, 0), x.lots(4, 0), x.lots(MIN, 0), x.lots(MAX, 0));
        C.sentence("8 NULL");
        C.every("nothing", -11, x.lots(3, 0), x.lots(3, -1), x.lots(3, 99));
        C.sentence("8 taken as a row of booleans; CAST");
        C.every("another lane", -12, x.lots(0, 0), x.lots(1, 0), x.lots(0, -1), x.lots(1, 99));
        C.sentence("8 from item i on; INDEX");
        C.every("i", -13, x.lots(2, -1), x.lots(2, 2), x.lots(2, 5), x.lots(2, MIN), x.lots(2, MAX), x.lots(2, MAX - 2));
        C.row("these change nothing", Check.of(x.world(0, 1, 0), x.world(1, 1, 0), x.world(2, 1, 0), x.world(3, 1, 0)), 0, 0, 0, 0);
        C.sentence("8 LOTS of all TICKS: how many are 1");
        C.due("from 1 on", x.lots(2, 1), 2);
        C.row("from 1 on", Check.of(x.world(0, 1, 0), x.world(1, 1, 0), x.world(2, 1, 0), x.world(3, 1, 0)), 0, 1, 0, 1);
        x.ticks(5);
        C.row("all five", Check.of(x.lots(2, 0), x.lots(2, 1)), 3, -13);
        x.ticks(1);
        C.row("but one", Check.of(x.lots(2, 3), x.world(0, 1, 0), x.lots(2, 4), x.world(0, 1, 1), x.lots(2, 5)), 0, 0, 1, 1, -13);
        C.due("0 comes in place of 1", x.lots(2, 3), 0);
        C.due("0 comes in place of 1", x.world(0, 1, 0), 0);
    }

    // ---- 9, 10

    private static void play() {
        C.sentence("9 A PLAY of a MACHINE: at a TICK. BAD");
        MachineBench x = Check.machine("0*:1>3");
        Check.rules(x, 1, "0*:2>2;0*:3");
        C.every("machine", -1, x.play(-1, 0, 0), x.play(2, 0, 0), x.play(MIN, 0, 0), x.play(MAX, 0, 0));
        C.every("tick", -1, x.play(0, -1, 0), x.play(0, 4, 0), x.play(1, 4, 2), x.play(0, MIN, 0), x.play(0, MAX, 0));
        C.every("what", -1, x.play(0, 0, -1), x.play(0, 0, 3), x.play(0, 0, MIN), x.play(0, 0, MAX));
        C.sentence("Terms: A PLAY: TICK by TICK from STATE 0; 9 0 STATE (ahead)");
        C.row("the one", Check.of(x.play(0, 0, 0), x.play(0, 1, 0), x.play(0, 3, 0)), 0, 3, 3);
        C.row("the other", Check.of(x.play(1, 0, 0), x.play(1, 1, 0), x.play(1, 3, 0)), 0, 2, 2);
        C.row("again from 0", Check.of(x.play(0, 0, 0), x.play(1, 0, 0)), 0, 0);
        x.ticks(12);
        C.row("the twelfth", Check.of(x.play(0, 11, 0), x.play(0, 11, 1), x.play(0, 11, 2), x.play(0, 12, 0)), 3, 0, 1, -1);
        C.sentence("9 1 the RULE (8: none)");
        Check.rules(x, 0, "0l:1;0l:1;0l:1;0l:1;0l:1;0l:1;0l:1;0f3:2");
        x.world(11, 0, 8);
        C.row("8 and 7", Check.of(x.play(0, 10, 1), x.play(0, 11, 1), x.play(0, 10, 2), x.play(0, 11, 2)), 8, 7, 0, 2);
    }

    private static void chooses() {
        C.sentence("10 at a STATE, a SIGHT, a LOT. BAD");
        MachineBench x = Check.machine("0s3&f0&f1&f2&f3&l:1;0s0&!f0&!f1&!f2&!f3&!l:1");
        C.every("machine", -1, x.chooses(-1, 0, 0, 0), x.chooses(2, 0, 0, 0), x.chooses(MIN, 0, 0, 0), x.chooses(MAX, 0, 0, 0));
        C.every("state", -1, x.chooses(0, -1, 0, 0), x.chooses(0, 4, 0, 0), x.chooses(0, MIN, 0, 0), x.chooses(0, MAX, 0, 0));
        C.every("sight", -1, x.chooses(0, 0, -1, 0), x.chooses(0, 0, 16, 0), x.chooses(0, 0, MIN, 0), x.chooses(0, 0, MAX, 0));
        C.every("lot", -1, x.chooses(0, 0, 0, -1), x.chooses(0, 0, 0, 2), x.chooses(0, 0, 0, MIN), x.chooses(0, 0, 0, MAX));
        C.sentence("10 the RULE (8: none)");
        C.row("the greatest, the least, none", Check.of(x.chooses(0, 3, 15, 1), x.chooses(0, 0, 0, 0), x.chooses(0, 3, 15, 0), x.chooses(0, 3, 14, 1)), 0, 1, 8, 8);
        C.row("of no rules", Check.of(x.chooses(1, 0, 0, 0), x.chooses(1, 3, 15, 1)), 8, 8);
        C.sentence("10 What a MACHINE CHOOSES: THE WORLD and its STATES do not matter");
        x.world(0, 0, 15);
        x.world(0, 1, 1);
        C.row("as before", Check.of(x.chooses(0, 0, 0, 0), x.chooses(0, 0, 15, 1)), 1, 8);
    }
}
