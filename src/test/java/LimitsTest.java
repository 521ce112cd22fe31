/** Every call with all that an object can hold: 12 TICKS, 8 RULES, 48 LINES, 6 THINGS, 48 items, 120 bytes. */
public final class LimitsTest {
    private static final Check C = new Check();

    public static void main(String[] args) {
        fullMachines();
        fullBook();
        fullThings();
        fullSheets();
        fullTape();
        farNumbers();
        C.end("LimitsTest");
    }

    /** Eight RULES of which none holds at SIGHT 0; the eighth alone holds at SIGHT 8. */
    private static MachineBench full() {
        MachineBench x = Check.machine("0f0:1;0f0:1;0f0:1;0f0:1;0f1:1;0f1:1;0f1:1;3f3:3>3");
        Check.rules(x, 1, "0f0:1;0f0:1;0f0:1;0f0:1;0f1:1;0f1:1;0f1:1;3f3:3>3");
        x.ticks(12);
        return x;
    }

    private static void fullMachines() {
        MachineBench x = full();
        x.world(10, 0, 8);
        for (int t = 0; t < 12; t++) {
            C.due("9 rule", x.play(0, t, 1), t == 10 ? 7 : 8);
            C.due("9 act", x.play(0, t, 2), t == 10 ? 3 : 0);
            C.due("9 state", x.play(0, t, 0), t == 11 ? 3 : 0);
            C.due("30 act", x.careful(t, 0), t == 10 ? 3 : 0);
        }
        C.due("10 none", x.chooses(0, 0, 0, 0), 8);
        C.due("31 first", x.saying(7, true, true), 16);
        C.due("22 last tick", x.doing(0, 11), 1);
        C.due("29 comes without all", x.part(3), 0);
        x.doing(3, 10);
        C.due("29 the eighth rule's maker", x.part(3), 24);
        Check.duty(x, "!s3");
        C.due("33 last tick", x.broken(), 11);
    }

    private static void fullBook() {
        MachineBench x = full();
        x.world(11, 0, 8);
        C.due("11", x.write(48), 0);
        for (int k = 0; k < 3; k++) {
            C.due("17", x.give(k), 48);
        }
        C.due("18", x.kept(2, 47), x.line(47, 3));
        C.due("19", x.torn(), -4);
        C.due("20", x.differs(), -4);
        C.due("21 lost", x.count(4), 0);
        C.due("14 last", x.forge(47, 1), 3);
        C.due("19 last", x.torn(), 47);
        C.due("20 last", x.differs(), 47);
        x.forge(47, 3);
        x.swap(0, 47);
        C.due("20 the first line, and the last that saw", x.differs(), -4);
        x.forge(0, 0);
        C.due("20 the first line", x.differs(), 0);
        x.swap(0, 47);
        x.swap(44, 47);
        x.forge(44, 3);
        C.due("20 the last line saw", x.differs(), -4);
        x.forge(47, 7);
        C.due("20 the last line saw another sight", x.differs(), 44);
        C.due("11 all are lost", x.write(0), 48);
        C.due("21 lost", x.count(4), 48);
        C.due("20 all are lost", x.differs(), -4);
        x.write(48);
        x.ticks(11);
        x.forge(47, 1);
        C.due("20 a tick beyond the last", x.differs(), -4);
        fewLines();
    }

    private static void fewLines() {
        MachineBench x = new MachineBench();
        x.tell(1, 1);
        x.give(0);
        C.due("13 a keeper of one line", x.line(0, 4), 1);
        C.due("19 a keeper of one line", x.torn(), -4);
        x.tell(2, 2);
        x.give(0);
        x.tear(1);
        x.give(0);
        x.tell(2, 2);
        C.due("13 no longer held", x.line(1, 4), 0);
        C.due("18 no longer held", x.kept(0, 1), -4);
        C.due("19 no longer held", x.torn(), 1);
    }

    private static void fullThings() {
        MachineBench x = Check.machine("0f0|f1|f2|f3|l:1");
        Check.rules(x, 1, "0*:1");
        x.ticks(12);
        x.world(11, 0, 15);
        x.world(11, 1, 1);
        x.doing(1, 11);
        for (int f = 0; f < 4; f++) {
            x.thing(0, 11, f);
        }
        x.thing(1, 11, 0);
        C.due("26 all five", x.because(), 31);
        C.due("27 any one", x.enough(), 1);
        x.clear();
        Check.rules(x, 0, "0f0|f1|f2|f3|l:1;1*:1");
        for (int f = 3; f >= 0; f--) {
            x.thing(0, 11, f);
        }
        x.thing(1, 11, 0);
        x.thing(2, 0, 1);
        C.due("26 all six", x.because(), 63);
        C.due("28 all six", x.sets(0), 1);
        C.due("25 all six", x.otherwise(63), 0);
        C.due("25 64", x.otherwise(64), -1);
        C.due("28 any", x.sets(1), 63);
        C.due("22 things are as they are", x.doing(1, 11), 1);
        x.clear();
        Check.rules(x, 0, "0f0:1");
        x.thing(0, 11, 0);
        C.due("22 things are as they are", x.doing(1, 11), 1);
        C.due("26 as it is, not otherwise", x.because(), 1);
        x.world(11, 0, 14);
        C.due("22 things are as they are", x.doing(1, 11), 0);
        C.due("26 comes only otherwise", x.because(), -4);
        C.due("28 comes only otherwise", x.sets(0), 0);
    }

    private static void fullSheets() {
        MachineBench x = full();
        x.sheet(0, 1, 48);
        x.sheet(1, 0, 48);
        x.sheet(2, 0, 48);
        for (int i = 0; i < 48; i++) {
            x.item(0, 1, i, i % 16);
            x.item(1, 0, i, 1);
        }
        C.due("7 the last twelve", x.sights(0, 1, 36), 12);
        C.due("7 one beyond", x.sights(0, 1, 37), -13);
        C.due("8 the last twelve", x.lots(1, 36), 12);
        C.due("8 one beyond", x.lots(1, 37), -13);
        C.due("37 all", x.copy(1, 0, 2, 0, 48), 48);
        C.due("37 all to itself", x.copy(1, 0, 1, 0, 48), 48);
        C.due("37 none at the end", x.copy(1, 48, 2, 48, 0), 0);
        for (int t = 0; t < 12; t++) {
            C.due("7 " + t, x.world(t, 0, 0), (36 + t) % 16);
            C.due("8 " + t, x.world(t, 1, 0), 1);
        }
    }

    private static void fullTape() {
        MachineBench x = new MachineBench();
        Check.type(x, "0" + "l|".repeat(58) + "l:1");
        C.due("2 the tape is full", x.type(32, 1), -3);
        C.due("3 a full tape", x.rules(0), 1);
        C.due("10 a full tape", x.chooses(0, 0, 0, 1), 0);
        Check.type(x, "0" + "l&".repeat(58) + "l:1");
        C.due("3 a full tape", x.rules(0), 1);
        Check.type(x, "l&".repeat(60));
        C.due("32 the end of a full tape", x.duty(), -140);
        Check.type(x, "(((((" + "*".repeat(115));
        C.due("32 in a full tape", x.duty(), -26);
        Check.type(x, " ".repeat(120));
        C.due("3 blanks alone", x.rules(0), -140);
        Check.type(x, " ".repeat(119) + "l");
        C.due("32 the last byte", x.duty(), 1);
    }

    /** No number may make the machine throw. */
    private static void farNumbers() {
        int[] far = {Integer.MIN_VALUE, Integer.MIN_VALUE + 1, -129, -1, 128, Integer.MAX_VALUE - 1, Integer.MAX_VALUE};
        MachineBench x = full();
        x.sheet(0, 1, 48);
        for (int v : far) {
            int[] answers = {x.type(48, v), x.rules(v), x.rule(v, 0, 0), x.rule(0, v, 0), x.rule(0, 0, v), x.ticks(v),
                x.world(v, 0, 0), x.world(0, v, 0), x.world(0, 0, v), x.sights(v, 1, 0), x.sights(0, v, 0), x.lots(v, 0),
                x.play(v, 0, 0), x.play(0, v, 0), x.play(0, 0, v), x.chooses(v, 0, 0, 0), x.chooses(0, v, 0, 0),
                x.chooses(0, 0, v, 0), x.chooses(0, 0, 0, v), x.write(v), x.tell(v, 0), x.tell(0, v), x.line(v, 0),
                x.line(0, v), x.forge(v, 0), x.forge(0, v), x.swap(v, 0), x.swap(0, v), x.tear(v), x.give(v), x.kept(v, 0),
                x.kept(0, v), x.count(v), x.doing(v, 0), x.doing(0, v), x.thing(v, 0, 0), x.thing(0, v, 0), x.thing(0, 0, v),
                x.otherwise(v), x.sets(v), x.part(v), x.careful(v, 0), x.careful(0, v), x.saying(v, true, true),
                x.sheet(v, 0, 0), x.sheet(0, v, 0), x.drop(v), x.item(v, 1, 0, 0), x.item(0, v, 0, 0), x.copy(v, 0, 0, 0, 0),
                x.copy(0, 0, v, 0, 0)};
            for (int i = 0; i < answers.length; i++) {
                C.due("bad " + v + " in call " + i, answers[i], -1);
            }
        }
    }
}
