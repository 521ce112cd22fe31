/** Promises 22 to 33: the doing, things otherwise, parts, care, sayings, duties. */
public final class WhyTest {
    private static final Check C = new Check();

    public static void main(String[] args) {
        doing();
        thing();
        otherwise();
        because();
        enough();
        whatChangesNothing();
        part();
        careful();
        saying();
        duty();
        broken();
        C.end("WhyTest");
    }

    private static void doing() {
        MachineBench x = Check.machine("0f0:2>1;1s1:3");
        x.world(0, 0, 1);
        C.due("22 comes", x.doing(2, 0), 1);
        C.due("22 does not", x.doing(1, 0), 0);
        C.due("22 later", x.doing(3, 3), 1);
        C.due("22 act 4", x.doing(4, 0), -1);
        C.due("22 act -1", x.doing(-1, 0), -1);
        C.due("22 tick 4", x.doing(0, 4), -1);
        C.due("22 tick -1", x.doing(0, -1), -1);
        C.due("25 bad ones change nothing", x.otherwise(0), 1);
        C.due("22 no rules: act 0", new MachineBench().doing(0, 3), 1);
        x.doing(3, 3);
        Check.rules(x, 0, "0*:3");
        C.due("25 told the latest, on other rules", x.otherwise(0), 1);
        x.ticks(3);
        C.due("25 not its tick", x.otherwise(0), -2);
        C.due("25 bad ahead of not", x.otherwise(1), -1);
        C.due("26 not its tick", x.because(), -2);
        C.due("27 not its tick", x.enough(), -2);
        C.due("28 not its tick", x.sets(1), -2);
        C.due("28 bad ahead of not", x.sets(2), -1);
        C.due("29 not its tick", x.part(3), -2);
        C.due("29 bad ahead of not", x.part(4), -1);
        x.ticks(4);
        C.due("25 its tick again", x.otherwise(0), 1);
    }

    private static void thing() {
        MachineBench x = new MachineBench();
        C.due("23 feature", x.thing(0, 11, 3), 0);
        C.due("23 lot", x.thing(1, 11, 0), 1);
        C.due("23 rule", x.thing(2, 0, 7), 2);
        C.due("23 alike", x.thing(0, 11, 3), -2);
        C.due("23 alike", x.thing(1, 11, 0), -2);
        C.due("23 alike", x.thing(2, 0, 7), -2);
        int[][] bad = {{-1, 0, 0}, {3, 0, 0}, {0, -1, 0}, {0, 12, 0}, {0, 0, -1}, {0, 0, 4}, {1, -1, 0}, {1, 12, 0},
            {1, 0, 1}, {1, 0, -1}, {2, 1, 0}, {2, -1, 0}, {2, 0, 8}, {2, 0, -1}};
        for (int[] b : bad) {
            C.due("23 bad " + b[0] + " " + b[1] + " " + b[2], x.thing(b[0], b[1], b[2]), -1);
        }
        C.due("23 another kind", x.thing(0, 0, 0), 3);
        C.due("23 another kind", x.thing(1, 0, 0), 4);
        C.due("23 another kind", x.thing(2, 0, 0), 5);
        C.due("23 full", x.thing(2, 0, 1), -3);
        C.due("23 not ahead of full", x.thing(2, 0, 7), -2);
        C.due("23 bad ahead of full", x.thing(2, 0, 8), -1);
        C.due("21 things", x.count(5), 6);
        C.due("24 clear", x.clear(), 6);
        C.due("24 clear", x.clear(), 0);
        C.due("23 from 0 on", x.thing(2, 0, 7), 0);
    }

    /** DOES 1 at TICK 2 if at TICK 0 it saw 0 or drew 1 (not both RULES gone), and sees 1 at TICK 2. */
    private static MachineBench chain() {
        MachineBench x = Check.machine("0s0&f0:3>1;1s0&l:3>1;2s1&f1:1");
        x.ticks(3);
        x.world(0, 0, 1);
        x.world(0, 1, 1);
        x.world(2, 0, 2);
        x.doing(1, 2);
        return x;
    }

    private static void otherwise() {
        MachineBench x = chain();
        C.due("25 no things", x.otherwise(0), 1);
        C.due("25 no things", x.otherwise(1), -1);
        C.due("25 below", x.otherwise(-1), -1);
        x.thing(0, 0, 0);
        x.thing(1, 0, 0);
        x.thing(2, 0, 2);
        int[] want = {1, 1, 1, 0, 0, 0, 0, 0};
        for (int set = 0; set < 8; set++) {
            C.due("25 " + set, x.otherwise(set), want[set]);
        }
        C.due("25 8", x.otherwise(8), -1);
        C.due("25 none was told", new MachineBench().otherwise(0), -2);
        C.due("25 bad ahead of not", new MachineBench().otherwise(1), -1);
        x.doing(0, 2);
        int[] zero = {0, 0, 0, 1, 1, 1, 1, 1};
        for (int set = 0; set < 8; set++) {
            C.due("25 act 0, " + set, x.otherwise(set), zero[set]);
        }
        C.due("26 does not come as it is", x.because(), -4);
        C.due("27 does not come as it is", x.enough(), -4);
        C.due("28 does not come as it is", x.sets(0), 0);
        C.due("28 does not come as it is", x.sets(1), 0);
        C.due("22 the world is as it was", x.play(0, 0, 1), 0);
    }

    private static void because() {
        MachineBench x = chain();
        C.due("26 no things", x.because(), -4);
        C.due("28 no things", x.sets(0), 0);
        x.thing(0, 0, 0);
        C.due("26 not alone", x.because(), -4);
        x.thing(1, 0, 0);
        C.due("26 both", x.because(), 3);
        C.due("28 both", x.sets(0), 1);
        x.thing(0, 2, 1);
        C.due("26 the fewest", x.because(), 4);
        C.due("28 sets", x.sets(0), 5);
        x.thing(2, 0, 2);
        C.due("26 the least bits of like ones", x.because(), 4);
        C.due("28 sets", x.sets(0), 13);
        C.due("26 none was told", new MachineBench().because(), -2);
        C.due("28 none was told", new MachineBench().sets(0), -2);
        C.due("28 bad", x.sets(-1), -1);
        C.due("28 bad", x.sets(2), -1);
    }

    private static void enough() {
        MachineBench x = chain();
        C.due("27 no things: the empty set", x.enough(), 0);
        C.due("28 no things", x.sets(1), 1);
        x.thing(0, 0, 0);
        C.due("27 needs none", x.enough(), 0);
        C.due("28", x.sets(1), 2);
        x.thing(1, 0, 0);
        C.due("27 one of two", x.enough(), 1);
        C.due("28", x.sets(1), 3);
        x.thing(2, 0, 2);
        C.due("27 and the rule", x.enough(), 5);
        C.due("28", x.sets(1), 3);
        x.thing(2, 0, 0);
        C.due("27 the lot and the rule, or else three", x.enough(), 6);
        C.due("27 none was told", new MachineBench().enough(), -2);
        C.due("28 none was told", new MachineBench().sets(1), -2);
    }

    private static void whatChangesNothing() {
        MachineBench x = chain();
        x.thing(0, 3, 0);
        x.thing(1, 11, 0);
        x.thing(2, 0, 3);
        x.thing(2, 0, 7);
        for (int set = 0; set < 16; set++) {
            C.due("25 nothing is there: " + set, x.otherwise(set), 1);
        }
        C.due("27 nothing is there", x.enough(), 0);
        C.due("28 nothing is there", x.sets(1), 16);
        C.due("28 nothing is there", x.sets(0), 0);
        Check.rules(x, 0, "0*:3;0*:3;0*:3;0f1:1");
        C.due("25 things stay", x.count(5), 4);
        x.doing(3, 1);
        C.due("25 a later tick", x.otherwise(15), 1);
        x.clear();
        x.thing(0, 2, 1);
        x.doing(3, 1);
        C.due("25 a later tick's feature", x.otherwise(1), 1);
    }

    private static void part() {
        MachineBench x = chain();
        C.due("29 maker 0", x.part(0), 4);
        C.due("29 maker 1", x.part(1), 4);
        C.due("29 maker 2", x.part(2), 16);
        C.due("29 maker 3", x.part(3), 0);
        C.due("29 maker 4", x.part(4), -1);
        C.due("29 maker -1", x.part(-1), -1);
        C.due("29 none was told", new MachineBench().part(0), -2);
        Check.rules(x, 0, "0*:1");
        C.due("29 all", x.part(0), 24);
        C.due("29 others", x.part(1), 0);
        Check.rules(x, 0, "0*:1;1*:1;2*:1;3*:1");
        for (int m = 0; m < 4; m++) {
            C.due("29 each a fourth", x.part(m), 6);
        }
        Check.rules(x, 0, "3*:2;0*:1");
        C.due("29 undone by another", x.part(0), 12);
        C.due("29 the one that undoes", x.part(3), 0);
        x.doing(0, 2);
        C.due("29 comes with no rules: never as one comes", x.part(0), 0);
        Check.rules(x, 0, "1*:2;2*:0");
        C.due("29 comes with no rules: never as one comes", x.part(2), 0);
        Check.rules(x, 0, "2*:0>1;1*:2");
        C.due("29 as 2 comes behind 1", x.part(2), 12);
    }

    private static void careful() {
        MachineBench x = Check.machine("0*:1");
        Check.rules(x, 1, "0f0&s0:3>1;1s1&f1:2;2l:1");
        x.world(0, 0, 1);
        x.world(0, 2, 14);
        x.world(1, 0, 2);
        x.world(1, 2, 2);
        x.world(2, 1, 1);
        x.world(2, 2, 0);
        int[] known = {0, 0, 1, 0};
        int[] all = {3, 2, 1, 0};
        for (int t = 0; t < 4; t++) {
            C.due("30 known " + t, x.careful(t, 0), known[t]);
            C.due("30 all " + t, x.careful(t, 1), all[t]);
            C.due("30 the same as a play " + t, x.play(1, t, 2), all[t]);
        }
        C.due("30 tick 4", x.careful(4, 0), -1);
        C.due("30 tick -1", x.careful(-1, 0), -1);
        C.due("30 by 2", x.careful(0, 2), -1);
        C.due("30 by -1", x.careful(0, -1), -1);
        C.due("30 no rules", new MachineBench().careful(0, 0), 0);
        Check.rules(x, 1, "0!f0:2");
        C.due("30 a feature not known is not there", x.careful(0, 0), 2);
    }

    private static void saying() {
        MachineBench x = Check.machine("0f2:1");
        C.due("31 true", x.saying(4, false, false), -4);
        C.due("31 true of more", x.saying(15, true, true), -4);
        C.due("31 denied", x.saying(11, true, true), 128 * 0 + 8);
        C.due("31 denied", x.saying(0, false, false), 8);
        Check.rules(x, 0, "0l&s2:2");
        C.due("31 true", x.saying(0, true, true), -4);
        C.due("31 without the lot", x.saying(15, true, false), 128 * 64 + 65);
        C.due("31 without the state", x.saying(15, false, true), 128 * 1 + 65);
        C.due("31 without both", x.saying(0, false, false), 65);
        Check.rules(x, 0, "0f0:3;1f0|!f0:3>1");
        C.due("31 the same act by other rules", x.saying(0, false, false), -4);
        C.due("31 features 16", x.saying(16, true, true), -1);
        C.due("31 features -1", x.saying(-1, true, true), -1);
        C.due("31 no rules", new MachineBench().saying(0, false, false), -4);
        Check.rules(x, 1, "0l:2");
        C.due("31 of the one, not of the other", x.saying(0, false, false), -4);
    }

    private static void dutyFault(String text, int place) {
        MachineBench x = Check.machine("0*:1");
        Check.duty(x, "a1");
        C.due("32 '" + text + "'", Check.duty(x, text), -20 - place);
        C.due("32 the tape is empty", x.type(48, 1), 1);
        C.due("32 the duty stays", x.broken(), -4);
        MachineBench y = new MachineBench();
        Check.duty(y, text);
        C.due("33 none was told", y.broken(), -2);
    }

    private static void duty() {
        dutyFault("", 0);
        dutyFault("  ", 2);
        dutyFault("a", 1);
        dutyFault("a4", 1);
        dutyFault("a0:1", 2);
        dutyFault("0a0", 0);
        dutyFault("a0)", 2);
        dutyFault("(a0", 3);
        dutyFault("a0;", 2);
        dutyFault("a0 a1", 3);
        dutyFault("!!a0", 1);
        dutyFault("((((((a0", 5);
        dutyFault("a0&", 3);
        dutyFault("a0| ", 4);
        dutyFault("d0", 0);
        MachineBench x = new MachineBench();
        C.due("32", Check.duty(x, " ( ( ( ( ( a 0 ) ) ) ) ) & ! a 3 | l"), 1);
        C.due("32 the tape is empty", x.duty(), -20);
        C.due("3 a is no claim of rules", Check.rules(x, 0, "0*&a0:1"), -23);
    }

    private static void broken(MachineBench x, String text, int want) {
        C.due("32 " + text, Check.duty(x, text), 1);
        C.due("33 " + text, x.broken(), want);
    }

    private static void broken() {
        MachineBench x = Check.machine("0f0&s0:2>1;1l:3>0");
        x.world(0, 0, 1);
        x.world(1, 1, 1);
        x.world(1, 2, 0);
        x.world(2, 0, 8);
        C.due("33 none was told", x.broken(), -2);
        broken(x, "*", -4);
        broken(x, "!*", 0);
        broken(x, "!a0", 2);
        broken(x, "!a3", 1);
        broken(x, "a0|a2|a3", -4);
        broken(x, "a1|!a1", -4);
        broken(x, "s0", 1);
        broken(x, "s0|s1", -4);
        broken(x, "!f3", 2);
        broken(x, "!(f3&a0)", 2);
        broken(x, "!l|a3", -4);
        broken(x, "!l|a3&s0", 1);
        broken(x, "!f0|a2&s0&!l", -4);
        broken(x, "a2|a3|f3", 3);
        x.ticks(3);
        C.due("33 of the world's ticks alone", x.broken(), -4);
        Check.rules(x, 0, "0f3:1");
        C.due("33 on other rules", x.broken(), 0);
        Check.rules(x, 1, "0*:2");
        C.due("33 of the one alone", x.broken(), 0);
    }
}
