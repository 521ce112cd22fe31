/** Promises 11 to 21: the book, its seals and keepers, a play again, counts. */
public final class BookTest {
    private static final Check C = new Check();

    public static void main(String[] args) {
        write();
        lost();
        tell();
        line();
        forge();
        swap();
        tear();
        give();
        held();
        torn();
        differs();
        count();
        C.end("BookTest");
    }

    /** Three TICKS: STATES 0, 1, 1; RULES 0, 1, none; ACTS 2, 3, 0. */
    private static MachineBench written(int room) {
        MachineBench x = Check.machine("0s0&f0:2>1;1l:3");
        x.ticks(3);
        x.world(0, 0, 5);
        x.world(1, 1, 1);
        x.world(2, 0, 9);
        x.write(room);
        return x;
    }

    private static final int[][] WRITTEN = {
        {0, 0, 5}, {3, 0, 0}, {1, 0, 0}, {2, 0, 2},
        {0, 1, 0}, {3, 1, 1}, {1, 1, 1}, {2, 1, 3},
        {0, 2, 9}, {3, 2, 0}, {1, 2, 8}, {2, 2, 0}};

    private static int seal(int ahead, int kind, int tick, int number) {
        return (31 * ahead + 131 * kind + 17 * tick + 7 * number + 1) % 9973;
    }

    private static void write() {
        MachineBench x = written(48);
        C.due("11 lines", x.count(3), 12);
        C.due("11 line 12", x.line(12, 0), -1);
        int seal = 1;
        for (int i = 0; i < 12; i++) {
            int[] w = WRITTEN[i];
            seal = seal(seal, w[0], w[1], w[2]);
            C.due("11 kind " + i, x.line(i, 0), w[0]);
            C.due("11 tick " + i, x.line(i, 1), w[1]);
            C.due("11 number " + i, x.line(i, 2), w[2]);
            C.due("11 seal " + i, x.line(i, 3), seal);
            C.due("11 not held " + i, x.line(i, 4), 0);
        }
        C.due("11 bad", x.write(-1), -1);
        C.due("11 bad", x.write(49), -1);
        C.due("11 unchanged", x.count(3), 12);
        x.tell(0, 1);
        x.ticks(1);
        C.due("11 new", x.write(48), 0);
        C.due("11 new", x.count(3), 4);
        C.due("11 no rules", new MachineBench().write(16), 0);
    }

    private static void lost() {
        int[] order = {10, 6, 2, 9, 5, 1, 8, 4, 0, 11, 7, 3};
        for (int room = 0; room <= 14; room++) {
            MachineBench x = written(48);
            int lost = Math.max(0, 12 - room);
            C.due("11 room " + room, x.write(room), lost);
            C.due("21 room " + room, x.count(4), lost);
            C.due("11 they stay", x.count(3), 12);
            boolean[] gone = new boolean[12];
            for (int i = 0; i < lost; i++) {
                gone[order[i]] = true;
            }
            int seal = 1;
            for (int i = 0; i < 12; i++) {
                int[] w = WRITTEN[i];
                seal = gone[i] ? seal(seal, 5, w[1], 0) : seal(seal, w[0], w[1], w[2]);
                C.due("11 kind " + i, x.line(i, 0), gone[i] ? 5 : w[0]);
                C.due("11 tick " + i, x.line(i, 1), w[1]);
                C.due("13 number " + i, x.line(i, 2), gone[i] ? -12 : w[2]);
                C.due("11 seal " + i, x.line(i, 3), seal);
            }
        }
    }

    private static void tell() {
        MachineBench x = new MachineBench();
        C.due("12 into no book", x.tell(11, 99), 0);
        C.due("12 second", x.tell(0, 0), 1);
        C.due("12 kind", x.line(0, 0), 4);
        C.due("12 tick", x.line(0, 1), 11);
        C.due("12 number", x.line(0, 2), 99);
        C.due("12 seal", x.line(0, 3), (31 + 131 * 4 + 17 * 11 + 7 * 99 + 1) % 9973);
        C.due("12 tick 12", x.tell(12, 0), -1);
        C.due("12 tick -1", x.tell(-1, 0), -1);
        C.due("12 number 100", x.tell(0, 100), -1);
        C.due("12 number -1", x.tell(0, -1), -1);
        for (int i = 2; i < 48; i++) {
            C.due("12 number", x.tell(1, 1), i);
        }
        C.due("12 full", x.tell(1, 1), -3);
        C.due("12 bad ahead of full", x.tell(12, 1), -1);
        C.due("12 count", x.count(3), 48);
        x.tear(0);
        C.due("12 room again", x.tell(1, 1), 47);
        x.ticks(12);
        C.due("12 a full book", x.write(48), 0);
        C.due("12 full", x.tell(0, 0), -3);
    }

    private static void line() {
        MachineBench x = written(11);
        C.due("13 -1", x.line(-1, 0), -1);
        C.due("13 12", x.line(12, 0), -1);
        C.due("13 what 5", x.line(0, 5), -1);
        C.due("13 what -1", x.line(0, -1), -1);
        C.due("13 lost kind", x.line(10, 0), 5);
        C.due("13 lost tick", x.line(10, 1), 2);
        C.due("13 lost number", x.line(10, 2), -12);
        C.due("13 lost held", x.line(10, 4), 0);
        x.give(1);
        C.due("13 lost held", x.line(10, 4), 1);
        C.due("13 empty", new MachineBench().line(0, 0), -1);
    }

    private static void forge() {
        MachineBench x = written(48);
        x.tell(3, 7);
        int[][] most = {{0, 15}, {1, 1}, {2, 8}, {3, 3}, {12, 99}};
        int[] was = {5, 0, 0, 2, 7};
        for (int i = 0; i < most.length; i++) {
            int line = most[i][0];
            C.due("14 above " + line, x.forge(line, most[i][1] + 1), -1);
            C.due("14 below " + line, x.forge(line, -1), -1);
            C.due("14 " + line, x.forge(line, most[i][1]), was[i]);
            C.due("14 " + line, x.line(line, 2), most[i][1]);
            C.due("14 again " + line, x.forge(line, 0), most[i][1]);
        }
        C.due("14 line 13", x.forge(13, 0), -1);
        C.due("14 line -1", x.forge(-1, 0), -1);
        C.due("14 seals follow", x.line(0, 3), seal(1, 0, 0, 0));
        C.due("14 seals follow", x.line(1, 3), seal(seal(1, 0, 0, 0), 3, 0, 0));
        x.write(0);
        C.due("14 lost", x.forge(0, 99), -12);
        C.due("14 lost", x.forge(0, 0), -12);
        C.due("14 lost, bad", x.forge(0, 100), -1);
        C.due("14 lost, bad", x.forge(0, -1), -1);
    }

    private static void swap() {
        MachineBench x = written(48);
        C.due("15", x.swap(11, 0), 1);
        C.due("15 kind", x.line(0, 0), 2);
        C.due("15 tick", x.line(0, 1), 2);
        C.due("15 number", x.line(0, 2), 0);
        C.due("15 kind", x.line(11, 0), 0);
        C.due("15 tick", x.line(11, 1), 0);
        C.due("15 number", x.line(11, 2), 5);
        C.due("15 seal", x.line(0, 3), seal(1, 2, 2, 0));
        C.due("15 one", x.swap(3, 3), -1);
        C.due("15 12", x.swap(0, 12), -1);
        C.due("15 12", x.swap(12, 0), -1);
        C.due("15 -1", x.swap(-1, 0), -1);
        C.due("15 -1", x.swap(0, -1), -1);
        x.write(11);
        x.swap(10, 0);
        C.due("15 lost ones too", x.line(0, 0), 5);
        C.due("15 lost ones too", x.line(10, 2), 5);
    }

    private static void tear() {
        MachineBench x = written(48);
        C.due("16 12", x.tear(12), -1);
        C.due("16 -1", x.tear(-1), -1);
        C.due("16 last", x.tear(11), 11);
        C.due("16 last is gone", x.line(11, 0), -1);
        C.due("16 first", x.tear(0), 10);
        C.due("16 comes up", x.line(0, 0), 3);
        C.due("16 comes up", x.line(9, 0), 1);
        C.due("16 comes up", x.line(9, 2), 8);
        C.due("16 seal", x.line(0, 3), seal(1, 3, 0, 0));
        for (int left = 9; left >= 0; left--) {
            C.due("16", x.tear(left / 2), left);
        }
        C.due("16 none", x.tear(0), -1);
        C.due("16 none", x.count(3), 0);
        MachineBench full = new MachineBench();
        full.ticks(12);
        full.write(48);
        C.due("16 of 48", full.tear(47), 47);
        C.due("16 of 48", full.tear(0), 46);
    }

    private static void give() {
        MachineBench x = new MachineBench();
        C.due("17 nothing", x.give(0), 0);
        C.due("18 none", x.kept(0, 0), -4);
        C.due("19 holds nothing", x.torn(), -2);
        x.write(48);
        C.due("17 all", x.give(0), 16);
        C.due("17 -1", x.give(-1), -1);
        C.due("17 3", x.give(3), -1);
        for (int i = 0; i < 16; i++) {
            C.due("18 " + i, x.kept(0, i), x.line(i, 3));
        }
        int was = x.line(3, 3);
        x.forge(0, 1);
        C.due("18 as it was", x.kept(0, 3), was);
        C.due("18 beyond", x.kept(0, 16), -4);
        C.due("18 47", x.kept(0, 47), -4);
        C.due("18 48", x.kept(0, 48), -1);
        C.due("18 -1", x.kept(0, -1), -1);
        C.due("18 keeper 3", x.kept(3, 0), -1);
        C.due("18 keeper -1", x.kept(-1, 0), -1);
        C.due("18 keeper 1", x.kept(1, 0), -4);
        x.tear(15);
        C.due("17 in place", x.give(0), 15);
        C.due("18 in place", x.kept(0, 15), -4);
        C.due("18 in place", x.kept(0, 3), x.line(3, 3));
    }

    private static void held() {
        MachineBench x = written(48);
        C.due("13 no keeper", x.line(0, 4), 0);
        x.give(2);
        C.due("13 one of one", x.line(0, 4), 1);
        x.forge(4, 1);
        x.give(0);
        C.due("13 two of two", x.line(3, 4), 1);
        C.due("13 one of two", x.line(4, 4), 0);
        C.due("13 one of two, behind", x.line(11, 4), 0);
        C.due("19 one of two", x.torn(), 4);
        x.give(1);
        C.due("13 two of three", x.line(4, 4), 1);
        C.due("19 two of three", x.torn(), -4);
        x.tell(0, 0);
        C.due("13 beyond what they hold", x.line(12, 4), 0);
        C.due("19 beyond what they hold", x.torn(), 12);
        x.give(1);
        C.due("13 one of three", x.line(12, 4), 0);
        x.give(2);
        C.due("13 two of three", x.line(12, 4), 1);
    }

    private static void torn() {
        MachineBench x = written(48);
        C.due("19 no keeper", x.torn(), -2);
        x.give(0);
        C.due("19 all", x.torn(), -4);
        x.tear(11);
        C.due("19 the last torn out is not seen", x.torn(), -4);
        x.swap(0, 1);
        C.due("19 swapped", x.torn(), 0);
        x.swap(0, 1);
        x.tear(2);
        C.due("19 torn", x.torn(), 2);
        int left = x.count(3);
        for (int i = 0; i < left; i++) {
            x.tear(0);
        }
        C.due("19 no lines", x.torn(), -4);
        x.give(0);
        C.due("19 it holds nothing now", x.torn(), -2);
        x.write(48);
        x.give(1);
        C.due("19 an empty keeper does not count", x.torn(), -4);
    }

    private static void differs() {
        MachineBench x = written(48);
        C.due("20 as played", x.differs(), -4);
        x.forge(6, 8);
        C.due("20 chose", x.differs(), 6);
        x.forge(3, 1);
        C.due("20 did, ahead", x.differs(), 3);
        x.swap(3, 11);
        C.due("20 the first in the book", x.differs(), 6);
        x.swap(3, 11);
        x.forge(3, 2);
        x.forge(6, 1);
        C.due("20 as it was", x.differs(), -4);
        x.world(0, 0, 0);
        C.due("20 on the book's sight", x.differs(), -4);
        x.world(1, 1, 0);
        C.due("20 on the book's lot", x.differs(), -4);
        x.tear(0);
        C.due("20 on the world's sight, if torn", x.differs(), 1);
        x.world(0, 0, 1);
        C.due("20 on the world's sight, if torn", x.differs(), -4);
        x.tear(4);
        C.due("20 on the world's lot, if torn", x.differs(), 4);
        x = written(3);
        x.world(0, 0, 0);
        C.due("20 lost sights: the world's", x.differs(), 3);
        x.ticks(1);
        Check.rules(x, 0, "0*:2");
        C.due("20 only ticks of the world", x.differs(), -4);
        x.ticks(2);
        C.due("20 the world's ticks", x.differs(), 7);
        x = written(48);
        x.forge(0, 4);
        C.due("20 a forged sight", x.differs(), 2);
        x.forge(0, 5);
        Check.rules(x, 0, "0s0&f0:2>1;1l:2");
        C.due("20 other rules", x.differs(), 7);
        C.due("20 no book", new MachineBench().differs(), -4);
    }

    private static void count() {
        MachineBench x = written(10);
        Check.rules(x, 1, "0*:1;0*:1;0*:2");
        x.thing(1, 0, 0);
        x.tell(1, 1);
        int[] want = {3, 2, 3, 13, 2, 1};
        for (int i = 0; i < 6; i++) {
            C.due("21 " + i, x.count(i), want[i]);
        }
        C.due("21 6", x.count(6), -1);
        C.due("21 -1", x.count(-1), -1);
        x.tear(10);
        C.due("21 a lost one torn out", x.count(4), 1);
    }
}
