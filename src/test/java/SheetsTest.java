/** Promises 34 to 37: sheets. Items are seen by sights() of one TICK. */
public final class SheetsTest {
    private static final Check C = new Check();

    public static void main(String[] args) {
        sheet();
        drop();
        item();
        copy();
        C.end("SheetsTest");
    }

    private static int seen(MachineBench x, int sheet, int lane, int i) {
        x.ticks(1);
        int answer = lane == 0 ? x.lots(sheet, i) : x.sights(sheet, lane, i);
        return answer < 0 ? answer : x.world(0, lane == 0 ? 1 : 0, 0);
    }

    private static void sheet() {
        MachineBench x = new MachineBench();
        C.due("34", x.sheet(3, 2, 48), 48);
        C.due("34 no items", x.sheet(0, 0, 0), 0);
        C.due("34 49", x.sheet(0, 0, 49), -1);
        C.due("34 far", x.sheet(0, 0, Integer.MAX_VALUE), -1);
        C.due("34 below 0", x.sheet(0, 0, -1), -14);
        C.due("34 far below 0", x.sheet(0, 2, Integer.MIN_VALUE), -14);
        C.due("34 sheet 4", x.sheet(4, 0, 1), -1);
        C.due("34 sheet -1", x.sheet(-1, 0, 1), -1);
        C.due("34 lane 3", x.sheet(0, 3, 1), -1);
        C.due("34 lane -1", x.sheet(0, -1, 1), -1);
        C.due("34 bad ahead of size", x.sheet(4, 0, -1), -1);
        C.due("34 bad ahead of size", x.sheet(0, 3, -1), -1);
        C.due("34 unchanged", x.drop(0), 0);
        x.item(3, 2, 47, 9);
        C.due("34 item", seen(x, 3, 2, 47), 9);
        x.sheet(3, 2, 48);
        C.due("34 a new row", seen(x, 3, 2, 47), 0);
        x.sheet(3, 1, 2);
        C.due("34 another lane", x.item(3, 2, 0, 1), -12);
        C.due("34 shorter", x.item(3, 1, 2, 1), -13);
        C.due("34 shorter", x.item(3, 1, 1, 1), 1);
    }

    private static void drop() {
        MachineBench x = new MachineBench();
        C.due("35 nothing", x.drop(0), -11);
        C.due("35 4", x.drop(4), -1);
        C.due("35 -1", x.drop(-1), -1);
        x.sheet(0, 1, 7);
        C.due("35", x.drop(0), 7);
        C.due("35 nothing", x.drop(0), -11);
        C.due("35 nothing", x.item(0, 1, 0, 0), -11);
        x.sheet(0, 1, 0);
        C.due("35 a row of none", x.drop(0), 0);
        C.due("35 nothing", x.drop(0), -11);
    }

    private static void item() {
        MachineBench x = new MachineBench();
        C.due("36 nothing", x.item(0, 0, 0, 0), -11);
        C.due("36 bad ahead of null", x.item(0, 3, 0, 0), -1);
        C.due("36 lane -1", x.item(0, -1, 0, 0), -1);
        C.due("36 sheet 4", x.item(4, 0, 0, 0), -1);
        C.due("36 sheet -1", x.item(-1, 0, 0, 0), -1);
        x.sheet(0, 0, 3);
        x.sheet(1, 1, 3);
        x.sheet(2, 2, 3);
        C.due("36 cast ahead of index", x.item(0, 1, 9, 0), -12);
        C.due("36 index", x.item(0, 0, 3, 0), -13);
        C.due("36 index below", x.item(0, 0, -1, 0), -13);
        C.due("36 index far", x.item(0, 0, Integer.MAX_VALUE, 0), -13);
        C.due("36 index far below", x.item(0, 0, Integer.MIN_VALUE, 0), -13);
        C.due("36 boolean", x.item(0, 0, 2, 256), 1);
        C.due("36 boolean", seen(x, 0, 0, 2), 1);
        x.item(0, 0, 2, 0);
        C.due("36 boolean", seen(x, 0, 0, 2), 0);
        C.due("36 byte", x.item(1, 1, 0, 0x10F), 1);
        C.due("36 byte", seen(x, 1, 1, 0), 15);
        C.due("36 byte", x.item(1, 1, 0, -250), 1);
        C.due("36 byte", seen(x, 1, 1, 0), 6);
        C.due("36 byte", x.item(1, 1, 0, 0x8F), 1);
        C.due("36 byte below 0", seen(x, 1, 1, 0), -2);
        C.due("36 int", x.item(2, 2, 1, 0x10F), 1);
        C.due("36 int", seen(x, 2, 2, 1), -2);
        C.due("36 int", x.item(2, 2, 1, 15), 1);
        C.due("36 int", seen(x, 2, 2, 1), 15);
    }

    private static void fill(MachineBench x, int sheet, int from) {
        x.sheet(sheet, 1, 6);
        for (int i = 0; i < 6; i++) {
            x.item(sheet, 1, i, from + i);
        }
    }

    private static void row(MachineBench x, int sheet, int... want) {
        for (int i = 0; i < want.length; i++) {
            C.due("37 item " + i, seen(x, sheet, 1, i), want[i]);
        }
    }

    private static void copy() {
        MachineBench x = new MachineBench();
        C.due("37 nothing", x.copy(0, 0, 1, 0, 0), -11);
        fill(x, 0, 0);
        C.due("37 nothing at the other", x.copy(0, 0, 1, 0, 0), -11);
        C.due("37 nothing at the one", x.copy(1, 0, 0, 0, 0), -11);
        fill(x, 1, 8);
        C.due("37", x.copy(0, 1, 1, 2, 3), 3);
        row(x, 1, 8, 9, 1, 2, 3, 13);
        row(x, 0, 0, 1, 2, 3, 4, 5);
        C.due("37 up", x.copy(0, 0, 0, 2, 4), 4);
        row(x, 0, 0, 1, 0, 1, 2, 3);
        fill(x, 0, 0);
        C.due("37 down", x.copy(0, 2, 0, 0, 4), 4);
        row(x, 0, 2, 3, 4, 5, 4, 5);
        C.due("37 none, at the end", x.copy(0, 6, 1, 6, 0), 0);
        C.due("37 none, beyond", x.copy(0, 7, 1, 0, 0), -13);
        C.due("37 none, beyond", x.copy(0, 0, 1, 7, 0), -13);
        int[][] index = {{-1, 0, 1}, {0, -1, 1}, {0, 0, -1}, {1, 0, 6}, {0, 1, 6}, {0, 0, 7}, {Integer.MAX_VALUE, 0, 1},
            {1, 0, Integer.MAX_VALUE}, {0, Integer.MAX_VALUE, Integer.MAX_VALUE}, {Integer.MIN_VALUE, 0, 1}, {0, 0, Integer.MIN_VALUE}};
        for (int[] a : index) {
            C.due("37 index", x.copy(0, a[0], 1, a[1], a[2]), -13);
        }
        row(x, 1, 8, 9, 1, 2, 3, 13);
        x.sheet(2, 2, 6);
        C.due("37 cast ahead of index", x.copy(0, -1, 2, 0, 1), -12);
        C.due("37 null ahead of cast", x.copy(2, 0, 3, 0, 1), -11);
        C.due("37 bad ahead of null", x.copy(3, 0, 4, 0, 1), -1);
        C.due("37 -1", x.copy(-1, 0, 0, 0, 1), -1);
        C.due("37 -1", x.copy(0, 0, -1, 0, 1), -1);
        C.due("37 4", x.copy(4, 0, 0, 0, 1), -1);
        x.sheet(3, 0, 1);
        C.due("37 booleans", x.copy(3, 0, 3, 0, 1), 1);
    }
}
