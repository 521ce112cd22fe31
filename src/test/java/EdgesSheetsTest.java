/** The boundary cases of promises 34 to 37 and of what they use of the chapter 'Terms': a method for each sentence. */
public final class EdgesSheetsTest {
    private static final Check C = new Check();
    private static final int MIN = Integer.MIN_VALUE, MAX = Integer.MAX_VALUE;

    public static void main(String[] args) {
        sheet();
        sheetNew();
        drop();
        item();
        itemBits();
        copyRefused();
        copyIndex();
        copyOver();
        C.end("EdgesSheetsTest");
    }

    /** Item i by way of SIGHTS (LOTS) of a WORLD of one TICK. */
    private static int seen(MachineBench x, int sheet, int lane, int i) {
        x.ticks(1);
        int answer = lane == 0 ? x.lots(sheet, i) : x.sights(sheet, lane, i);
        return answer < 0 ? answer : x.world(0, lane == 0 ? 1 : 0, 0);
    }

    /** How many items a SHEET has, and that all are as told. */
    private static int[] items(MachineBench x, int sheet, int lane) {
        int n = 0;
        while (n < 48 && seen(x, sheet, lane, n) != -13) {
            n++;
        }
        int[] items = new int[n];
        for (int i = 0; i < n; i++) {
            items[i] = seen(x, sheet, lane, i);
        }
        return items;
    }

    /** SHEET 0: ints 0 .. 5; SHEET 1: ints 8 .. 13; SHEET 2: bytes; SHEET 3: nothing. */
    private static MachineBench four() {
        MachineBench x = new MachineBench();
        x.sheet(0, 2, 6);
        x.sheet(1, 2, 6);
        x.sheet(2, 1, 6);
        for (int i = 0; i < 6; i++) {
            x.item(0, 2, i, i);
            x.item(1, 2, i, 8 + i);
        }
        return x;
    }

    // ---- 34

    private static void sheet() {
        C.sentence("34 A SHEET (0 .. 3). BAD");
        MachineBench x = new MachineBench();
        C.every("sheet", -1, x.sheet(-1, 0, 1), x.sheet(4, 0, 1), x.sheet(MIN, 0, 1), x.sheet(MAX, 0, 1));
        C.sentence("34 a LANE: 0 booleans, 1 bytes, 2 ints. BAD");
        C.every("lane", -1, x.sheet(0, -1, 1), x.sheet(0, 3, 1), x.sheet(0, MIN, 1), x.sheet(0, MAX, 1));
        C.sentence("34 BAD: also n above 48");
        C.every("n", -1, x.sheet(0, 0, 49), x.sheet(0, 1, 49), x.sheet(0, 2, MAX));
        C.sentence("34 SIZE: n below 0");
        C.every("n", -14, x.sheet(0, 0, -1), x.sheet(0, 1, -1), x.sheet(3, 2, MIN));
        C.every("all of these change nothing", -11, x.drop(0), x.drop(1), x.drop(2), x.drop(3));
        C.sentence("34 of 0 to 48 items: n");
        C.row("0 and 48", Check.of(x.sheet(0, 0, 0), x.sheet(3, 2, 48), x.drop(0), x.drop(3)), 0, 48, 0, 48);
        C.sentence("34 BAD ahead of SIZE");
        C.every("bad", -1, x.sheet(4, 0, -1), x.sheet(-1, 0, -1), x.sheet(0, 3, -1), x.sheet(0, -1, -1));
    }

    private static void sheetNew() {
        C.sentence("34 holds a new row (0 at first)");
        for (int lane = 0; lane < 3; lane++) {
            MachineBench x = new MachineBench();
            x.sheet(1, lane, 48);
            for (int i = 0; i < 48; i++) {
                x.item(1, lane, i, 1);
            }
            x.sheet(1, lane, 48);
            C.row("of 48", Check.of(seen(x, 1, lane, 0), seen(x, 1, lane, 47), seen(x, 1, lane, 48)), 0, 0, -13);
            x.item(1, lane, 2, 1);
            x.item(1, lane, 47, 1);
            x.sheet(1, lane, 2);
            x.sheet(1, lane, 48);
            C.row("of 48, by way of 2", Check.of(seen(x, 1, lane, 2), seen(x, 1, lane, 47)), 0, 0);
            x.item(1, lane, 0, 1);
            x.drop(1);
            x.sheet(1, lane, 1);
            C.row("dropped, and new", Check.of(seen(x, 1, lane, 0), seen(x, 1, lane, 1)), 0, -13);
        }
        C.sentence("34 SIZE, BAD: the row that was stays");
        MachineBench y = four();
        C.row("refused", Check.of(y.sheet(0, 2, -1), y.sheet(0, 1, 49), y.sheet(0, 3, 2)), -14, -1, -1);
        C.row("as it was", items(y, 0, 2), 0, 1, 2, 3, 4, 5);
    }

    // ---- 35

    private static void drop() {
        C.sentence("35 BAD");
        MachineBench x = four();
        C.every("sheet", -1, x.drop(-1), x.drop(4), x.drop(MIN), x.drop(MAX));
        C.sentence("35 NULL");
        C.row("nothing", Check.of(x.drop(3), x.drop(3)), -11, -11);
        C.sentence("35 A SHEET holds nothing: how many items it had");
        C.row("six, and then nothing", Check.of(x.drop(0), x.drop(0), x.item(0, 2, 0, 0), x.sights(0, 2, 0), x.copy(0, 0, 1, 0, 0)), 6, -11, -11, -11, -11);
        C.row("the others stay", Check.of(seen(x, 1, 2, 5), x.drop(2)), 13, 6);
        x.sheet(3, 0, 0);
        C.row("a row of none is not nothing", Check.of(x.drop(3), x.drop(3)), 0, -11);
    }

    // ---- 36

    private static void item() {
        C.sentence("36 BAD");
        MachineBench x = four();
        C.every("sheet", -1, x.item(-1, 2, 0, 0), x.item(4, 2, 0, 0), x.item(MIN, 2, 0, 0), x.item(MAX, 2, 0, 0));
        C.every("lane", -1, x.item(0, -1, 0, 0), x.item(0, 3, 0, 0), x.item(3, 3, 0, 0), x.item(0, MIN, 0, 0), x.item(0, MAX, 0, 0));
        C.sentence("36 NULL");
        C.every("nothing", -11, x.item(3, 0, 0, 0), x.item(3, 1, 0, 0), x.item(3, 2, -1, 0), x.item(3, 2, 99, 0));
        C.sentence("36 CAST");
        C.every("another lane", -12, x.item(0, 0, 0, 9), x.item(0, 1, 0, 9), x.item(2, 0, 0, 9), x.item(2, 2, 0, 9), x.item(0, 1, -1, 9), x.item(0, 0, 99, 9));
        x.sheet(3, 0, 1);
        C.every("booleans", -12, x.item(3, 1, 0, 1), x.item(3, 2, 0, 1), x.item(3, 2, 1, 1));
        C.sentence("36 INDEX");
        C.every("i", -13, x.item(0, 2, -1, 9), x.item(0, 2, 6, 9), x.item(0, 2, 47, 9), x.item(0, 2, 48, 9), x.item(0, 2, MIN, 9), x.item(0, 2, MAX, 9));
        x.sheet(3, 0, 0);
        C.every("no items", -13, x.item(3, 0, 0, 1), x.item(3, 0, -1, 1));
        C.row("all of these change nothing", items(x, 0, 2), 0, 1, 2, 3, 4, 5);
        C.row("the first and the last", Check.of(x.item(0, 2, 0, 15), x.item(0, 2, 5, 14)), 1, 1);
        C.row("the first and the last", items(x, 0, 2), 15, 1, 2, 3, 4, 14);
        x.sheet(3, 1, 48);
        C.row("of 48", Check.of(x.item(3, 1, 47, 3), x.item(3, 1, 48, 3), seen(x, 3, 1, 47)), 1, -13, 3);
    }

    private static void itemBits() {
        C.sentence("36 becomes v, its lowest bits (booleans: whether v is not 0)");
        MachineBench x = new MachineBench();
        x.sheet(0, 0, 1);
        x.sheet(1, 1, 1);
        x.sheet(2, 2, 1);
        for (int v : new int[] {1, 2, -1, 256, 65536, MIN, MAX}) {
            x.item(0, 0, 0, 0);
            C.due("boolean 0", seen(x, 0, 0, 0), 0);
            C.due("boolean " + v, x.item(0, 0, 0, v), 1);
            C.due("boolean " + v, seen(x, 0, 0, 0), 1);
        }
        int[][] bytes = {{15, 15}, {16, -2}, {255, -2}, {256, 0}, {271, 15}, {272, -2}, {-1, -2}, {-256, 0}, {-241, 15}, {128, -2}, {127, -2}, {MIN, 0}, {MIN + 7, 7}, {MAX, -2}};
        for (int[] b : bytes) {
            C.due("byte " + b[0], x.item(1, 1, 0, b[0]), 1);
            C.due("byte " + b[0], seen(x, 1, 1, 0), b[1]);
        }
        int[][] ints = {{15, 15}, {16, -2}, {256, -2}, {271, -2}, {65536, -2}, {-1, -2}, {-241, -2}, {MIN, -2}, {MIN + 7, -2}, {MAX, -2}, {0, 0}};
        for (int[] b : ints) {
            C.due("int " + b[0], x.item(2, 2, 0, b[0]), 1);
            C.due("int " + b[0], seen(x, 2, 2, 0), b[1]);
        }
    }

    // ---- 37

    private static void copyRefused() {
        C.sentence("37 BAD");
        MachineBench x = four();
        C.every("from", -1, x.copy(-1, 0, 1, 0, 1), x.copy(4, 0, 1, 0, 1), x.copy(MIN, 0, 1, 0, 1), x.copy(MAX, 0, 1, 0, 1));
        C.every("to", -1, x.copy(0, 0, -1, 0, 1), x.copy(0, 0, 4, 0, 1), x.copy(0, 0, MIN, 0, 1), x.copy(0, 0, MAX, 0, 1));
        C.every("ahead of NULL", -1, x.copy(3, 0, 4, 0, 1), x.copy(-1, 0, 3, 0, 1));
        C.sentence("37 NULL (either)");
        C.every("from, to, both", -11, x.copy(3, 0, 0, 0, 1), x.copy(0, 0, 3, 0, 1), x.copy(3, 0, 3, 0, 1), x.copy(3, 0, 0, 0, 0), x.copy(0, 0, 3, 0, 0));
        C.every("ahead of INDEX", -11, x.copy(3, -1, 0, 0, 1), x.copy(0, 0, 3, 0, -1), x.copy(0, 7, 3, 7, 7));
        C.sentence("37 CAST: of unlike LANES");
        C.every("either way", -12, x.copy(0, 0, 2, 0, 1), x.copy(2, 0, 0, 0, 1), x.copy(0, 0, 2, 0, 0));
        C.every("ahead of INDEX", -12, x.copy(0, -1, 2, 0, 1), x.copy(2, 0, 0, 0, -1), x.copy(2, 0, 0, 9, 9));
        x.sheet(3, 0, 6);
        C.every("booleans", -12, x.copy(3, 0, 2, 0, 1), x.copy(2, 0, 3, 0, 1), x.copy(3, 0, 0, 0, 1), x.copy(0, 0, 3, 0, 1));
        C.row("all of these change nothing", items(x, 0, 2), 0, 1, 2, 3, 4, 5);
    }

    private static void copyIndex() {
        C.sentence("37 INDEX");
        MachineBench x = four();
        C.every("i", -13, x.copy(0, -1, 1, 0, 1), x.copy(0, 6, 1, 0, 1), x.copy(0, 1, 1, 0, 6), x.copy(0, MIN, 1, 0, 1), x.copy(0, MAX, 1, 0, 1));
        C.every("j", -13, x.copy(0, 0, 1, -1, 1), x.copy(0, 0, 1, 6, 1), x.copy(0, 0, 1, 1, 6), x.copy(0, 0, 1, MIN, 1), x.copy(0, 0, 1, MAX, 1));
        C.every("n", -13, x.copy(0, 0, 1, 0, -1), x.copy(0, 0, 1, 0, 7), x.copy(0, 0, 1, 0, MIN), x.copy(0, 0, 1, 0, MAX), x.copy(0, 3, 0, 3, -1));
        C.every("together beyond all numbers", -13, x.copy(0, MAX, 1, 0, MAX), x.copy(0, 1, 1, 1, MAX), x.copy(0, MIN, 1, MIN, MIN), x.copy(0, MAX, 1, MAX, 1), x.copy(0, 6, 1, 0, MIN));
        C.every("none of a place beyond", -13, x.copy(0, 7, 1, 0, 0), x.copy(0, 0, 1, 7, 0), x.copy(0, -1, 1, 0, 0), x.copy(0, 0, 1, -1, 0));
        C.row("all of these change nothing", items(x, 1, 2), 8, 9, 10, 11, 12, 13);
        C.row("none, up to the end", Check.of(x.copy(0, 6, 1, 6, 0), x.copy(0, 0, 1, 0, 0)), 0, 0);
        C.row("none comes", items(x, 1, 2), 8, 9, 10, 11, 12, 13);
        C.row("the last to the first, the first to the last", Check.of(x.copy(0, 5, 1, 0, 1), x.copy(0, 0, 1, 5, 1)), 1, 1);
        C.row("they come", items(x, 1, 2), 5, 9, 10, 11, 12, 0);
        C.row("all", Check.of(x.copy(0, 0, 1, 0, 6)), 6);
        C.row("all come", items(x, 1, 2), 0, 1, 2, 3, 4, 5);
        x.sheet(3, 2, 0);
        C.row("of a row of none", Check.of(x.copy(3, 0, 3, 0, 0), x.copy(3, 0, 3, 0, 1), x.copy(0, 0, 3, 0, 1), x.copy(0, 6, 3, 0, 0)), 0, -13, -13, 0);
        x.sheet(3, 2, 3);
        C.row("the shorter one counts", Check.of(x.copy(0, 0, 3, 0, 4), x.copy(3, 0, 0, 0, 4), x.copy(0, 3, 3, 0, 3), x.copy(0, 4, 3, 0, 3)), -13, -13, 3, -13);
        C.row("they came", items(x, 3, 2), 3, 4, 5);
    }

    private static void copyOver() {
        C.sentence("37 to another one (or the same) from j on, as if all were taken ahead: n");
        MachineBench up = four();
        C.due("up by one", up.copy(0, 0, 0, 1, 5), 5);
        C.row("up by one", items(up, 0, 2), 0, 0, 1, 2, 3, 4);
        MachineBench down = four();
        C.due("down by one", down.copy(0, 1, 0, 0, 5), 5);
        C.row("down by one", items(down, 0, 2), 1, 2, 3, 4, 5, 5);
        MachineBench same = four();
        C.due("to where they are", same.copy(0, 0, 0, 0, 6), 6);
        C.row("to where they are", items(same, 0, 2), 0, 1, 2, 3, 4, 5);
        C.due("to another", same.copy(0, 1, 1, 2, 3), 3);
        C.row("to another", items(same, 1, 2), 8, 9, 1, 2, 3, 13);
        C.row("they stay where they were", items(same, 0, 2), 0, 1, 2, 3, 4, 5);
        same.item(0, 2, 1, 7);
        C.row("what comes is not tied to where it was", items(same, 1, 2), 8, 9, 1, 2, 3, 13);
        MachineBench booleans = new MachineBench();
        booleans.sheet(0, 0, 4);
        booleans.item(0, 0, 0, 1);
        C.due("booleans", booleans.copy(0, 0, 0, 1, 3), 3);
        C.row("booleans", items(booleans, 0, 0), 1, 1, 0, 0);
        MachineBench bytes = new MachineBench();
        bytes.sheet(0, 1, 48);
        bytes.item(0, 1, 0, 15);
        C.due("bytes", bytes.copy(0, 0, 0, 1, 47), 47);
        C.row("bytes", Check.of(seen(bytes, 0, 1, 0), seen(bytes, 0, 1, 1), seen(bytes, 0, 1, 2)), 15, 15, 0);
    }
}
