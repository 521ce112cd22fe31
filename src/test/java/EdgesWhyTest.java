/** The boundary cases of promises 22 to 33 and of what they use of the chapter 'Terms': a method for each sentence. */
public final class EdgesWhyTest {
    private static final Check C = new Check();
    private static final int MIN = Integer.MIN_VALUE, MAX = Integer.MAX_VALUE;

    public static void main(String[] args) {
        doing();
        thingNumbers();
        thingsFull();
        clear();
        otherwise();
        notThere();
        notTold();
        because();
        enough();
        doesNotCome();
        sets();
        part();
        careful();
        saying();
        sayingDenied();
        dutyTexts();
        duty();
        broken();
        C.end("EdgesWhyTest");
    }

    // ---- 22

    private static void doing() {
        C.sentence("22 THE DOING: MACHINE 0 DOES a told ACT at a told TICK. BAD");
        MachineBench x = Check.machine("0s0:1>1;0*:3");
        C.every("act", -1, x.doing(-1, 0), x.doing(4, 0), x.doing(MIN, 0), x.doing(MAX, 0));
        C.every("tick", -1, x.doing(0, -1), x.doing(0, 4), x.doing(0, 11), x.doing(0, MIN), x.doing(0, MAX));
        C.due("bad ones tell none", x.otherwise(0), -2);
        C.sentence("22 1, if it comes as it is, else 0");
        C.row("acts 0, 1, 3", Check.of(x.doing(0, 0), x.doing(1, 0), x.doing(3, 0), x.doing(3, 3), x.doing(1, 3)), 0, 1, 0, 1, 0);
        C.due("no rules: act 0", new MachineBench().doing(0, 3), 1);
        x.ticks(12);
        C.row("the twelfth, and one beyond", Check.of(x.doing(3, 11), x.doing(3, 12)), 1, -1);
        MachineBench things = one();
        C.row("none of THINGS is OTHERWISE", Check.of(things.otherwise(7), things.doing(1, 1), things.doing(0, 1), things.doing(0, 0)), 0, 1, 0, 1);
        C.sentence("22 BAD changes nothing: THE DOING told ahead is the latest");
        x.doing(1, 0);
        x.doing(4, 1);
        x.doing(3, 12);
        x.doing(-1, 3);
        x.doing(3, -1);
        C.due("act 1 at tick 0", x.otherwise(0), 1);
        x.world(0, 1, 1);
        Check.rules(x, 0, "0l:1");
        C.due("act 1 at tick 0", x.otherwise(0), 1);
    }

    // ---- 23, 24

    private static void thingNumbers() {
        C.sentence("23 KIND 0 a FEATURE, 1 a LOT, 2 a RULE. BAD");
        MachineBench x = new MachineBench();
        C.every("kind", -1, x.thing(-1, 0, 0), x.thing(3, 0, 0), x.thing(MIN, 0, 0), x.thing(MAX, 0, 0));
        C.sentence("23 a FEATURE (of a TICK 0 .. 11; number 0 .. 3)");
        C.every("tick", -1, x.thing(0, -1, 0), x.thing(0, 12, 0), x.thing(0, MIN, 0), x.thing(0, MAX, 0));
        C.every("number", -1, x.thing(0, 0, -1), x.thing(0, 0, 4), x.thing(0, 0, 7), x.thing(0, 0, MIN), x.thing(0, 0, MAX));
        C.row("the least and the most, of a world of 4", Check.of(x.thing(0, 0, 0), x.thing(0, 11, 3)), 0, 1);
        C.sentence("23 a LOT (of a TICK; number 0)");
        C.every("tick", -1, x.thing(1, -1, 0), x.thing(1, 12, 0), x.thing(1, MIN, 0), x.thing(1, MAX, 0));
        C.every("number", -1, x.thing(1, 0, -1), x.thing(1, 0, 1), x.thing(1, 0, 3), x.thing(1, 0, MIN), x.thing(1, 0, MAX));
        C.row("the least and the most", Check.of(x.thing(1, 0, 0), x.thing(1, 11, 0)), 2, 3);
        C.sentence("23 a RULE (TICK 0; number 0 .. 7)");
        C.every("tick", -1, x.thing(2, -1, 0), x.thing(2, 1, 0), x.thing(2, 11, 0), x.thing(2, MIN, 0), x.thing(2, MAX, 0));
        C.every("number", -1, x.thing(2, 0, -1), x.thing(2, 0, 8), x.thing(2, 0, MIN), x.thing(2, 0, MAX));
        C.row("the least and the most, of no rules", Check.of(x.thing(2, 0, 0), x.thing(2, 0, 7)), 4, 5);
        C.due("bad ones are none", x.count(5), 6);
    }

    private static void thingsFull() {
        C.sentence("23 NOT: there is one");
        MachineBench x = new MachineBench();
        C.row("alike", Check.of(x.thing(0, 2, 1), x.thing(0, 2, 1), x.count(5)), 0, -2, 1);
        C.row("not alike in one", Check.of(x.thing(0, 2, 0), x.thing(0, 1, 1), x.thing(1, 2, 0), x.thing(2, 0, 1)), 1, 2, 3, 4);
        C.row("alike to each", Check.of(x.thing(0, 2, 0), x.thing(0, 1, 1), x.thing(1, 2, 0), x.thing(2, 0, 1)), -2, -2, -2, -2);
        C.sentence("23 FULL: 6");
        C.row("the sixth, and a seventh", Check.of(x.thing(2, 0, 0), x.thing(2, 0, 2), x.count(5)), 5, -3, 6);
        C.sentence("23 BAD ahead of NOT ahead of FULL");
        C.row("of six", Check.of(x.thing(0, 12, 0), x.thing(2, 0, 0), x.thing(0, 2, 1), x.thing(0, 3, 3)), -1, -2, -2, -3);
    }

    private static void clear() {
        C.sentence("24 All THINGS go: how many");
        MachineBench x = new MachineBench();
        C.due("of none", x.clear(), 0);
        for (int i = 0; i < 6; i++) {
            x.thing(1, i, 0);
        }
        C.row("of six", Check.of(x.clear(), x.count(5), x.clear()), 6, 0, 0);
        C.row("one alike comes again, as the first", Check.of(x.thing(1, 5, 0), x.thing(1, 5, 0)), 0, -2);
        C.sentence("24 THINGS alone go");
        x.doing(0, 0);
        x.clear();
        C.row("THE DOING stays", Check.of(x.otherwise(0), x.otherwise(1)), 1, -1);
    }

    // ---- 25

    /** DOES 1 at TICK 1 as LOT, FEATURE 0 (of TICK 1) and RULE 0 are; THINGS 0, 1, 2 are these. */
    private static MachineBench one() {
        MachineBench x = Check.machine("0f0&l:1");
        x.world(1, 0, 1);
        x.world(1, 1, 1);
        x.thing(1, 1, 0);
        x.thing(0, 1, 0);
        x.thing(2, 0, 0);
        x.doing(1, 1);
        return x;
    }

    private static void otherwise() {
        C.sentence("25 a set of THINGS. BAD");
        MachineBench x = one();
        C.every("set", -1, x.otherwise(-1), x.otherwise(8), x.otherwise(16), x.otherwise(MIN), x.otherwise(MAX));
        C.row("none and all", Check.of(x.otherwise(0), x.otherwise(7)), 1, 0);
        x.clear();
        C.row("of no things", Check.of(x.otherwise(0), x.otherwise(1)), 1, -1);
        for (int i = 0; i < 6; i++) {
            x.thing(1, 6 + i, 0);
        }
        C.row("of six", Check.of(x.otherwise(63), x.otherwise(64)), 1, -1);
        C.sentence("Terms: OTHERWISE: the FEATURE the other way, the LOT the other way, without the RULE");
        MachineBench y = one();
        C.row("each of them undoes", Check.of(y.otherwise(1), y.otherwise(2), y.otherwise(4)), 0, 0, 0);
        y.world(1, 0, 0);
        y.world(1, 1, 0);
        C.row("0 becomes 1", Check.of(y.otherwise(0), y.otherwise(1), y.otherwise(2), y.otherwise(3), y.otherwise(7)), 0, 0, 0, 1, 0);
        C.row("nothing is otherwise then", Check.of(y.world(1, 0, 0), y.world(1, 1, 0), y.count(1), y.play(0, 1, 2)), 0, 0, 1, 0);
        MachineBench rules = Check.machine("0*:1;0*:2;0*:3;0*:1;0*:2;0*:3;0*:1;0*:2");
        rules.thing(2, 0, 0);
        rules.thing(2, 0, 7);
        rules.thing(2, 0, 1);
        rules.doing(3, 0);
        C.row("others keep their order", Check.of(rules.otherwise(1), rules.otherwise(4), rules.otherwise(5), rules.otherwise(7)), 0, 0, 1, 1);
    }

    private static void notThere() {
        C.sentence("Terms: (of MACHINE 0, by number; TICKS, RULES that are not there change nothing)");
        MachineBench x = one();
        x.clear();
        x.thing(0, 4, 0);
        x.thing(0, 11, 3);
        x.thing(1, 4, 0);
        x.thing(1, 11, 0);
        x.thing(2, 0, 1);
        x.thing(2, 0, 7);
        for (int set = 0; set < 64; set++) {
            C.due("set " + set, x.otherwise(set), 1);
        }
        C.row("they are things all the same", Check.of(x.because(), x.enough(), x.sets(0), x.sets(1)), -4, 0, 0, 64);
        Check.rules(x, 0, "0l:1;0f0:1");
        C.row("a rule that came", Check.of(x.otherwise(0), x.otherwise(16)), 1, 1);
        x.ticks(12);
        x.doing(0, 4);
        C.row("ticks that came", Check.of(x.otherwise(0), x.otherwise(1), x.otherwise(4), x.otherwise(17), x.otherwise(21)), 1, 0, 0, 1, 0);
        x.ticks(4);
        x.ticks(5);
        C.row("a tick that went and came", Check.of(x.otherwise(0), x.otherwise(1)), 1, 0);
    }

    private static void notTold() {
        C.sentence("25 NOT: none was told");
        MachineBench x = new MachineBench();
        C.every("none", -2, x.otherwise(0), x.because(), x.enough(), x.sets(0), x.sets(1), x.part(0), x.part(3));
        C.sentence("25 NOT: or THE WORLD has not its TICK");
        x.doing(0, 3);
        x.ticks(3);
        C.every("3 of 3", -2, x.otherwise(0), x.because(), x.enough(), x.sets(0), x.sets(1), x.part(0), x.part(3));
        x.ticks(4);
        C.row("3 of 4", Check.of(x.otherwise(0), x.because(), x.enough(), x.sets(0), x.sets(1), x.part(0)), 1, -4, 0, 0, 1, 0);
        C.sentence("25, 28, 29 BAD ahead of NOT");
        x.ticks(1);
        C.every("bad", -1, x.otherwise(1), x.otherwise(-1), x.sets(2), x.sets(-1), x.part(4), x.part(-1));
        MachineBench y = new MachineBench();
        C.every("bad, none was told", -1, y.otherwise(1), y.sets(2), y.part(4));
    }

    // ---- 26, 27, 28

    /** DOES 1 at TICK 0 while the TEST holds there; SIGHT 15, LOT 1; THINGS 0 .. 3 its FEATURES, 4 its LOT. */
    private static MachineBench by(String test) {
        MachineBench x = Check.machine("0" + test + ":1");
        x.world(0, 0, 15);
        x.world(0, 1, 1);
        for (int f = 0; f < 4; f++) {
            x.thing(0, 0, f);
        }
        x.thing(1, 0, 0);
        x.doing(1, 0);
        return x;
    }

    private static void because() {
        C.sentence("Terms: LEAST sets: the fewest THINGS, of like ones the least bits (BECAUSE)");
        C.due("one, though two have less bits", by("(f0|f1)&f3").because(), 8);
        C.due("of two like ones", by("f2&f3").because(), 4);
        C.due("of two like pairs", by("(f0|f3)&(f1|f2)").because(), 6);
        C.due("all five", by("f0|f1|f2|f3|l").because(), 31);
        MachineBench six = by("f0|f1|f2|f3|l:1;1*");
        C.row("all six", Check.of(six.thing(2, 0, 1), six.because(), six.sets(0)), 5, 63, 1);
        C.due("the last alone", by("l").because(), 16);
        C.sentence("26 NONE");
        C.due("none of these", by("*").because(), -4);
        MachineBench x = by("f0");
        x.clear();
        C.due("of no things", x.because(), -4);
        C.sentence("Terms: with all of it OTHERWISE (and no other) THE DOING does not come");
        C.row("f0 and f1 either way alike", Check.of(by("f0&f1|!f0&!f1").because(), by("f0&f1|!f0&!f1").sets(0)), 1, 16);
    }

    private static void enough() {
        C.sentence("Terms: LEAST sets: the fewest THINGS, of like ones the least bits (ENOUGH)");
        C.due("one, though two have less bits", by("f0&f1|f3").enough(), 8);
        C.due("of two like ones", by("f2|f3").enough(), 4);
        C.due("of two like pairs", by("f0&f3|f1&f2").enough(), 6);
        C.due("all five", by("f0&f1&f2&f3&l").enough(), 31);
        MachineBench six = by("f0&f1&f2&f3&l");
        C.row("all six", Check.of(six.thing(2, 0, 0), six.enough(), six.sets(1)), 5, 63, 1);
        C.due("the last alone", by("l").enough(), 16);
        C.due("none is needed: the empty set", by("*").enough(), 0);
        C.sentence("27 of no THINGS");
        MachineBench x = by("f0");
        x.clear();
        C.row("the empty set, the one there is", Check.of(x.enough(), x.sets(1)), 0, 1);
        C.sentence("Terms: ENOUGH, if it comes with any of the others OTHERWISE, none of it");
        C.row("any: f0 alone is not enough", Check.of(by("f0&f1|!f0&!f1").enough(), by("f0&f1|!f0&!f1").sets(1)), 3, 8);
    }

    private static void doesNotCome() {
        C.sentence("Terms: (If THE DOING does not come as it is: none is BECAUSE, none ENOUGH.); 27 NONE");
        MachineBench x = by("!f0");
        C.row("comes but otherwise", Check.of(x.otherwise(0), x.otherwise(1), x.because(), x.enough(), x.sets(0), x.sets(1)), 0, 1, -4, -4, 0, 0);
        MachineBench y = by("!*");
        C.row("comes never", Check.of(y.because(), y.enough(), y.sets(0), y.sets(1)), -4, -4, 0, 0);
        y.clear();
        C.row("of no things", Check.of(y.because(), y.enough(), y.sets(0), y.sets(1)), -4, -4, 0, 0);
    }

    private static void sets() {
        C.sentence("28 How many sets are BECAUSE (0), ENOUGH (1). BAD");
        MachineBench x = by("f0");
        C.every("what", -1, x.sets(-1), x.sets(2), x.sets(MIN), x.sets(MAX));
        C.row("of 32", Check.of(x.sets(0), x.sets(1)), 16, 16);
        x.thing(0, 11, 0);
        C.row("of 64", Check.of(x.sets(0), x.sets(1)), 32, 32);
        C.row("all of 32, none", Check.of(by("*").sets(1), by("*").sets(0)), 32, 0);
        C.row("but one of 32", Check.of(by("f0&f1&f2&f3&l").sets(1), by("f0|f1|f2|f3|l").sets(0)), 1, 1);
        C.row("all but one of 32", Check.of(by("f0|f1|f2|f3|l").sets(1), by("f0&f1&f2&f3&l").sets(0)), 31, 31);
    }

    // ---- 29

    private static MachineBench makers(String text) {
        MachineBench x = Check.machine(text);
        x.doing(1, 0);
        return x;
    }

    private static int[] parts(MachineBench x) {
        return Check.of(x.part(0), x.part(1), x.part(2), x.part(3));
    }

    private static void part() {
        C.sentence("29 A MAKER's PART. BAD");
        MachineBench x = makers("3*:1");
        C.every("maker", -1, x.part(-1), x.part(4), x.part(MIN), x.part(MAX));
        C.sentence("29 (of 24)");
        C.row("one's alone", parts(x), 0, 0, 0, 24);
        C.row("each the same", parts(makers("0*:1;1*:1;2*:1;3*:1")), 6, 6, 6, 6);
        C.row("of all four together", parts(makers("0!s0:1;1!s0:1;2!s0:1;3!s0:1")), 0, 0, 0, 0);
        C.row("of two", parts(makers("0*:1;2*:1")), 12, 0, 12, 0);
        C.row("of eight rules", parts(makers("0l:1;1l:1;2l:1;3l:1;0l:1;1l:1;2l:1;3*:1")), 0, 0, 0, 24);
        C.row("one that undoes another's", parts(makers("1*:2;2*:1")), 0, 0, 12, 0);
        MachineBench chain = Check.machine("0s0:3>1;1s1:3>2;2s2:3>3;3s3:1");
        chain.doing(1, 3);
        C.row("all are needed", parts(chain), 6, 6, 6, 6);
        C.sentence("29 no RULES: ACT 0 comes ahead of all");
        MachineBench none = new MachineBench();
        none.doing(0, 0);
        C.row("act 0", parts(none), 0, 0, 0, 0);
        none.doing(1, 0);
        C.row("act 1", parts(none), 0, 0, 0, 0);
        C.sentence("29 as that one comes, and did not ahead: though it does not come as it is");
        MachineBench undone = makers("3*:2;0*:1");
        C.row("not as it is", Check.of(undone.otherwise(0), undone.part(0), undone.part(3)), 0, 12, 0);
        C.sentence("29 THINGS do not matter");
        MachineBench things = makers("3*:1");
        things.thing(2, 0, 0);
        C.due("a rule among things", things.part(3), 24);
        MachineBench asked = one();
        C.row("asked behind otherwise(2)", Check.of(asked.otherwise(2), asked.part(0), asked.otherwise(1), asked.part(0)), 0, 24, 0, 24);
        asked.world(1, 1, 0);
        C.due("THE WORLD does", asked.part(0), 0);
    }

    // ---- 30

    private static void careful() {
        C.sentence("30 at a TICK, by KNOWN FEATURES (0), by all (1). BAD");
        MachineBench x = new MachineBench();
        C.every("tick", -1, x.careful(-1, 0), x.careful(4, 0), x.careful(4, 1), x.careful(MIN, 0), x.careful(MAX, 1));
        C.every("by", -1, x.careful(0, -1), x.careful(0, 2), x.careful(0, MIN), x.careful(0, MAX));
        C.every("of no rules", 0, x.careful(0, 0), x.careful(3, 0), x.careful(3, 1));
        Check.rules(x, 0, "0*:2");
        C.every("of MACHINE 1, not 0", 0, x.careful(0, 0), x.careful(0, 1));
        C.sentence("Terms: by SIGHTS with KNOWN FEATURES alone (others are not there), or by all");
        x.ticks(12);
        Check.rules(x, 1, "0f0&f1&f2&f3:3;0!f0&!f1&!f2&!f3:1;0*:2");
        x.world(11, 0, 15);
        C.row("all are known", Check.of(x.careful(11, 0), x.careful(11, 1), x.careful(12, 0)), 3, 3, -1);
        x.world(11, 2, 0);
        C.row("none is known", Check.of(x.careful(11, 0), x.careful(11, 1)), 1, 3);
        for (int f = 0; f < 4; f++) {
            x.world(11, 2, 1 << f);
            C.row("one is known", Check.of(x.careful(11, 0), x.careful(11, 1)), 2, 3);
            x.world(11, 2, 15 - (1 << f));
            C.row("three are known", Check.of(x.careful(11, 0), x.careful(11, 1)), 2, 3);
        }
        x.world(11, 0, 0);
        C.row("a mask shows none that is not there", Check.of(x.careful(11, 0), x.careful(11, 1)), 1, 1);
        C.sentence("Terms: in a PLAY of its own: MASKS of TICKS ahead count, LOTS are there");
        Check.rules(x, 1, "0f0:1>1;0s1&l:3;0l:2");
        x.world(0, 0, 1);
        x.world(11, 1, 1);
        C.row("known at tick 0", Check.of(x.careful(11, 0), x.careful(11, 1)), 3, 3);
        x.world(0, 2, 14);
        C.row("not known at tick 0", Check.of(x.careful(11, 0), x.careful(11, 1)), 2, 3);
    }

    // ---- 31

    private static void saying() {
        C.sentence("31 told FEATURES (bits). BAD");
        MachineBench x = Check.machine("0s1&f2&l:1");
        C.every("features", -1, x.saying(-1, true, true), x.saying(16, true, true), x.saying(16, false, false), x.saying(MIN, false, false), x.saying(MAX, true, false));
        C.sentence("31 NONE: it is TRUE");
        C.row("just these, and all", Check.of(x.saying(4, true, true), x.saying(15, true, true)), -4, -4);
        C.row("of no rules: at nothing", Check.of(new MachineBench().saying(0, false, false)), -4);
        Check.rules(x, 1, "0l:3");
        Check.rules(x, 0, "0*:3");
        C.due("always the same: at nothing", x.saying(0, false, false), -4);
        Check.rules(x, 0, "0l:0>3;0f0:0");
        C.due("the ACT alone, not the RULE or STATE", x.saying(0, false, false), -4);
    }

    private static void sayingDenied() {
        C.sentence("31 else 128 times the first and the greater one: DENIED by the first, with the first such greater one");
        MachineBench x = Check.machine("0s3&f0&f1&f2&f3&l:1");
        C.row("the last of all 128 alone is another: by its lot", Check.of(x.saying(15, true, false)), 128 * 126 + 127);
        C.row("by its state", Check.of(x.saying(15, false, true)), 128 * 31 + 127);
        C.row("by one feature each", Check.of(x.saying(14, true, true), x.saying(13, true, true), x.saying(11, true, true), x.saying(7, true, true)),
            128 * 125 + 127, 128 * 123 + 127, 128 * 119 + 127, 128 * 111 + 127);
        C.due("by anything", x.saying(0, false, false), 127);
        Check.rules(x, 0, "0s0&!f0&!f1&!f2&!f3&!l:1");
        C.row("the first of all 128 alone is another", Check.of(x.saying(0, false, false), x.saying(15, true, false), x.saying(15, false, true), x.saying(7, true, true)),
            1, 1, 32, 16);
        Check.rules(x, 0, "0l&f0:1;0l&f1:2");
        C.row("the first, with the first greater one", Check.of(x.saying(0, true, true), x.saying(0, true, false), x.saying(3, true, false), x.saying(1, true, true)),
            128 + 3, 3, 128 * 2 + 3, 128 + 5);
    }

    // ---- 32, 33

    private static void dutyTakes(String text) {
        C.due("'" + text + "'", Check.duty(new MachineBench(), text), 1);
    }

    private static void dutyFault(String text, int place) {
        C.due("'" + text + "'", Check.duty(new MachineBench(), text), -20 - place);
    }

    private static void dutyTexts() {
        C.sentence("Terms: A DUTY is a TEST as above, and two more: a and a digit 0 .. 3");
        for (char c = 33; c <= 126; c++) {
            if (c >= '0' && c <= '3') {
                dutyTakes("a" + c);
            } else {
                dutyFault("a" + c, 1);
            }
        }
        dutyFault("a", 1);
        dutyTakes("!a0&(a1|a2)|f0&s0&l&*");
        C.due("no CLAIM of RULES", Check.rules(new MachineBench(), 0, "0a0:1"), -21);
        MachineBench x = new MachineBench();
        Check.duty(x, "a0");
        C.due("nor behind a DUTY", Check.rules(x, 0, "0l|a0:1"), -23);
        C.sentence("Terms: told as a TEXT alone");
        dutyFault("0a0", 0);
        dutyFault("a0:1", 2);
        dutyFault("a0;a1", 2);
        dutyFault("a0>1", 2);
        dutyFault("a0a1", 2);
        C.sentence("Terms: a TEST in ( ) (5 open at once at most), of a DUTY too");
        dutyTakes("(((((a3)))))");
        dutyFault("((((((a3))))))", 5);
        dutyFault("(((((a3))))", 11);
        dutyFault("(((((a3))))))", 12);
        dutyFault("a3)", 2);
        C.sentence("Terms: FAULTS of a DUTY: behind blanks; the end: how many bytes there are");
        dutyFault("", 0);
        dutyFault("   ", 3);
        dutyFault("  x", 2);
        dutyFault("a  4", 3);
        dutyFault("a0 &  ", 6);
        dutyFault(" ".repeat(120), 120);
        dutyFault("*|".repeat(60), 120);
        dutyTakes(" ! a 0 & ( * ) ");
        dutyTakes(" ".repeat(119) + "*");
        dutyTakes("a0" + "|a0".repeat(39) + " ");
    }

    private static void duty() {
        C.sentence("32 THE TAPE, which is empty then");
        MachineBench x = Check.machine("0*:2");
        C.row("a duty", Check.of(Check.duty(x, "a2"), x.type(48, 1)), 1, 1);
        C.row("a fault", Check.of(x.duty(), x.type(48, 1)), -20, 1);
        x.duty();
        C.due("an empty tape", x.duty(), -20);
        C.sentence("32 A FAULT (THE DUTY stays)");
        for (String text : new String[] {"", "!a2&", "!a2)", "!a2;", "((((((!a2", "!*|a"}) {
            C.holds("'" + text + "' is a fault", Check.duty(x, text) <= -20);
            C.due("'" + text + "'", x.broken(), -4);
        }
        C.row("another in place of it", Check.of(Check.duty(x, "!a2"), x.broken()), 1, 0);
        C.sentence("33 NOT: no DUTY was told");
        MachineBench y = new MachineBench();
        C.due("none", y.broken(), -2);
        Check.duty(y, "*&");
        C.due("but a fault", y.broken(), -2);
        C.row("now one is", Check.of(Check.duty(y, "*"), y.broken()), 1, -4);
    }

    private static int breaks(MachineBench x, String text) {
        Check.duty(x, text);
        return x.broken();
    }

    private static void broken() {
        C.sentence("33 BROKEN: the first TICK at which it is not. NONE");
        MachineBench x = Check.machine("0l:3>3;0s3:1");
        x.ticks(12);
        x.world(10, 1, 1);
        C.row("all, none, the last two", Check.of(breaks(x, "!*"), breaks(x, "*"), breaks(x, "!l"), breaks(x, "!s3")), 0, -4, 10, 11);
        C.row("by acts", Check.of(breaks(x, "a0"), breaks(x, "!a1"), breaks(x, "!a2"), breaks(x, "a0|a1|a3")), 10, 11, -4, -4);
        C.row("not of ticks that went", Check.of(x.ticks(11), breaks(x, "!s3"), breaks(x, "!l")), 12, -4, 10);
        C.row("nor of one more", Check.of(x.ticks(10), breaks(x, "!l"), x.ticks(1), breaks(x, "!*")), 11, -4, 10, 0);
        C.sentence("Terms: it holds there, in a PLAY of MACHINE 0 (the STATE as it was ahead)");
        MachineBench y = Check.machine("0s0:2>1");
        y.ticks(1);
        C.row("0, not 1", Check.of(breaks(y, "s0"), breaks(y, "s1"), breaks(y, "a2&s0")), -4, 0, -4);
        Check.rules(y, 1, "0*:3");
        C.due("not of MACHINE 1", breaks(y, "!a3"), -4);
        y.world(0, 0, 8);
        y.world(0, 2, 0);
        C.due("MASKS do not matter", breaks(y, "f3"), -4);
        everyMoment();
    }

    /** Each CLAIM of a DUTY at every SIGHT and LOT, in STATES 0 and 1. */
    private static void everyMoment() {
        String[] claims = {"f0", "f1", "f2", "f3", "l", "a0", "a1", "a2", "s0", "s1", "s3", "f3&l", "!f0&!l"};
        for (String claim : claims) {
            MachineBench x = Check.machine("0s0:2>1;0l:1");
            x.ticks(2);
            Check.duty(x, "s0|" + claim);
            for (int i = 0; i < 32; i++) {
                x.world(1, 0, i / 2);
                x.world(1, 1, i % 2);
                boolean f3 = i / 2 >= 8;
                boolean lot = i % 2 == 1;
                boolean[] holds = {i / 2 % 2 == 1, i / 4 % 2 == 1, i / 8 % 2 == 1, f3, lot, !lot, lot, false, false, true, false, f3 && lot, i / 2 % 2 == 0 && !lot};
                C.due(claim + " at " + i, x.broken(), holds[java.util.Arrays.asList(claims).indexOf(claim)] ? -4 : 1);
            }
        }
    }
}
