/** Promises 20 to 24 and 29: sheet, lose, put, cell, copy, fault. */
public final class SheetsTest {
    private static final Check CHECK = new Check();

    public static void main(String[] args) {
        sheet();
        sheetRefused();
        lose();
        putCutsToLanes();
        putRefused();
        cellRefused();
        copy();
        copyRefused();
        fault();
        faultGoes();
        CHECK.end();
    }

    /** A call that names faults; behind it another one comes to a fault, ahead of the next. */
    private static void named(ThreeRefusals x, String call, long got, long want, int fault) {
        CHECK.due(call, got, want);
        CHECK.due("fault() behind " + call, x.fault(), fault);
        x.put(0, -1, 0);
        CHECK.due("another fault", x.fault() > 0 ? 1 : 0, 1);
    }

    private static void sheet() {
        ThreeRefusals x = new ThreeRefusals();
        for (int k = 0; k < 4; k++) {
            named(x, "a sheet of 100", x.sheet(k, k % 3, 100), 1, 0);
            CHECK.due("0 at first", x.cell(k, 0, k % 3), 0);
            CHECK.due("0 at first", x.cell(k, 99, k % 3), 0);
            CHECK.due("no more", x.cell(k, 100, k % 3), Check.LOST);
            x.put(k, 99, 7);
            x.put(k, 0, 8);
        }
        CHECK.due("a new row", x.sheet(1, 2, 1), 1);
        CHECK.due("0 at first", x.cell(1, 0, 2), 0);
        CHECK.due("shorter", x.cell(1, 1, 2), Check.LOST);
        CHECK.due("another lane", x.cell(1, 0, 1), Check.LOST);
        CHECK.due("a longer row", x.sheet(1, 2, 100), 1);
        CHECK.due("0 at first", x.cell(1, 99, 2), 0);
        CHECK.due("other sheets stay", x.cell(2, 99, 2), 7);
        CHECK.due("a row of none", x.sheet(0, 0, 0), 1);
        named(x, "no cell", x.cell(0, 0, 0), Check.LOST, 3);
        CHECK.due("it is a row", x.lose(0), 1);
    }

    private static void sheetRefused() {
        ThreeRefusals x = new ThreeRefusals();
        x.sheet(0, 1, 2);
        x.put(0, 1, 5);
        String was = Check.picture(x);
        named(x, "sheet(4)", x.sheet(4, 3, -1), Check.UNKNOWN, 0);
        named(x, "sheet(-1)", x.sheet(-1, 0, 1), Check.UNKNOWN, 0);
        named(x, "a length below 0", x.sheet(0, 0, -1), Check.SIZE, 4);
        named(x, "lane 3", x.sheet(0, 3, -1), Check.OUTSIDE, 0);
        named(x, "a length below 0", x.sheet(0, 2, Integer.MIN_VALUE), Check.SIZE, 4);
        named(x, "lane -1", x.sheet(0, -1, 1), Check.OUTSIDE, 0);
        named(x, "a length of 101", x.sheet(0, 0, 101), Check.OUTSIDE, 0);
        named(x, "a great length", x.sheet(0, 0, Integer.MAX_VALUE), Check.OUTSIDE, 0);
        CHECK.due("all is as it was", Check.picture(x).equals(was) ? 1 : 0, 1);
    }

    private static void lose() {
        ThreeRefusals x = new ThreeRefusals();
        CHECK.due("nothing", x.lose(0), 0);
        x.sheet(0, 0, 3);
        x.put(0, 3, 0);
        CHECK.due("fault of put", x.fault(), 3);
        CHECK.due("a row", x.lose(0), 1);
        CHECK.due("lose() names no faults", x.fault(), 3);
        CHECK.due("nothing", x.lose(0), 0);
        CHECK.due("no sheet", x.lose(4), Check.UNKNOWN);
        CHECK.due("no sheet", x.lose(-1), Check.UNKNOWN);
        CHECK.due("lose() names no faults", x.fault(), 3);
        named(x, "no cell", x.cell(0, 0, 0), Check.LOST, 1);
    }

    private static void putCutsToLanes() {
        int[] numbers = {0, 1, -1, 127, 128, -128, -129, 255, 256, 32767, 32768, -32768, -32769,
            65535, 65536, 70001, Integer.MAX_VALUE, Integer.MIN_VALUE};
        for (int v : numbers) {
            ThreeRefusals x = new ThreeRefusals();
            for (int lane = 0; lane < 3; lane++) {
                x.sheet(lane, lane, 3);
                named(x, "put " + v, x.put(lane, 1, v), 1, 0);
                int want = lane == 0 ? (byte) v : lane == 1 ? (short) v : v;
                named(x, "cell of lane " + lane, x.cell(lane, 1, lane), want, 0);
                CHECK.due("the cell ahead", x.cell(lane, 0, lane), 0);
                CHECK.due("the cell behind", x.cell(lane, 2, lane), 0);
            }
        }
    }

    private static void putRefused() {
        ThreeRefusals x = new ThreeRefusals();
        x.sheet(0, 0, 3);
        String was = Check.picture(x);
        named(x, "no row", x.put(1, -1, 1), Check.NULL, 1);
        named(x, "no sheet", x.put(4, 0, 1), Check.UNKNOWN, 0);
        named(x, "cell -1", x.put(0, -1, 1), Check.INDEX, 3);
        named(x, "no sheet", x.put(-1, 0, 1), Check.UNKNOWN, 0);
        named(x, "cell 3", x.put(0, 3, 1), Check.INDEX, 3);
        named(x, "cell far off", x.put(0, Integer.MIN_VALUE, 1), Check.INDEX, 3);
        named(x, "cell far off", x.put(0, Integer.MAX_VALUE, 1), Check.INDEX, 3);
        CHECK.due("all is as it was", Check.picture(x).equals(was) ? 1 : 0, 1);
    }

    private static void cellRefused() {
        ThreeRefusals x = new ThreeRefusals();
        x.sheet(0, 0, 3);
        named(x, "another lane", x.cell(0, -1, 1), Check.LOST, 2);
        named(x, "no sheet", x.cell(4, 0, 0), Check.LOST, 0);
        named(x, "no row", x.cell(1, -1, 2), Check.LOST, 1);
        named(x, "no sheet", x.cell(-1, 0, 0), Check.LOST, 0);
        named(x, "cell -1", x.cell(0, -1, 0), Check.LOST, 3);
        named(x, "lane 3", x.cell(0, 0, 3), Check.LOST, 0);
        named(x, "cell 3", x.cell(0, 3, 0), Check.LOST, 3);
        named(x, "lane -1", x.cell(1, 0, -1), Check.LOST, 0);
        named(x, "cell 2", x.cell(0, 2, 0), 0, 0);
    }

    private static void copy() {
        ThreeRefusals x = new ThreeRefusals();
        Check.write(x, 0, 1, 2, 3, 4, 5);
        x.sheet(1, 2, 4);
        named(x, "to another", x.copy(0, 1, 1, 0, 3), 3, 0);
        cells(x, 1, 2, 3, 4, 0);
        cells(x, 0, 1, 2, 3, 4, 5);
        named(x, "to the same, up", x.copy(0, 0, 0, 1, 4), 4, 0);
        cells(x, 0, 1, 1, 2, 3, 4);
        named(x, "to the same, down", x.copy(0, 2, 0, 1, 3), 3, 0);
        cells(x, 0, 1, 2, 3, 4, 4);
        named(x, "none", x.copy(0, 5, 1, 4, 0), 0, 0);
        named(x, "all to themselves", x.copy(1, 0, 1, 0, 4), 4, 0);
        cells(x, 1, 2, 3, 4, 0);
    }

    private static void cells(ThreeRefusals x, int sheet, int... want) {
        for (int i = 0; i < want.length; i++) {
            CHECK.due("cell " + i + " of " + sheet, x.cell(sheet, i, 2), want[i]);
        }
    }

    private static void copyRefused() {
        ThreeRefusals x = new ThreeRefusals();
        Check.write(x, 0, 1, 2, 3);
        Check.write(x, 1, 4, 5);
        x.sheet(2, 1, 3);
        String was = Check.picture(x);
        int[][] calls = {
            {4, 0, 0, 0, 0, Check.UNKNOWN}, {0, 0, 4, 0, 0, Check.UNKNOWN},
            {-1, 0, 3, 0, -1, Check.UNKNOWN}, {3, 0, -1, 0, 0, Check.UNKNOWN},
            {3, -1, 0, 0, 0, Check.NULL}, {0, -1, 3, 0, 0, Check.NULL}, {3, 0, 3, 0, 0, Check.NULL},
            {0, -1, 2, 0, 0, Check.CAST}, {2, 0, 0, 0, 1, Check.CAST},
            {0, -1, 1, 0, 0, Check.INDEX}, {0, 0, 1, -1, 0, Check.INDEX},
            {0, 0, 1, 0, -1, Check.INDEX}, {0, 4, 1, 0, 0, Check.INDEX},
            {0, 0, 1, 3, 0, Check.INDEX}, {0, 0, 1, 0, 3, Check.INDEX},
            {0, 2, 1, 0, 2, Check.INDEX}, {0, 0, 1, 1, 2, Check.INDEX},
            {0, 1, 1, 1, Integer.MAX_VALUE, Check.INDEX},
            {0, Integer.MAX_VALUE, 1, 0, 1, Check.INDEX},
            {0, 0, 1, Integer.MAX_VALUE, 1, Check.INDEX},
            {0, 0, 1, 0, Integer.MIN_VALUE, Check.INDEX},
        };
        for (int[] c : calls) {
            int fault = c[5] <= Check.NULL ? -10 - c[5] : 0;
            named(x, "copy", x.copy(c[0], c[1], c[2], c[3], c[4]), c[5], fault);
        }
        CHECK.due("all is as it was", Check.picture(x).equals(was) ? 1 : 0, 1);
    }

    /** Calls that name no faults leave fault() as it is. */
    private static void fault() {
        ThreeRefusals x = Check.valley(Check.THREE);
        CHECK.due("as() with a fault", x.as(1, 1), Check.CAST);
        x.likes(0, 0, 0);
        x.like(0, 0, 0, 5);
        x.like(9, 0, 0, 5);
        x.ofMaid(0, 0);
        x.ofMaid(9, 0);
        x.law(3);
        x.law(-1);
        x.offer(0, 0);
        x.offer(9, 0);
        x.comes(0);
        x.comes(9);
        x.undo(0);
        x.undo(9);
        x.pairs();
        x.sent(0, 0);
        x.sent(9, 0);
        x.firm(-1);
        x.firm(9);
        x.brought();
        x.worth(0, 1, 1, 0);
        x.worth(9, 1, 1, 0);
        x.reading(0, 0, 0, true);
        x.reading(9, 0, 0, true);
        x.back(0);
        x.back(9);
        x.learnt(0, 0, 0);
        x.learnt(9, 0, 0);
        x.kinds(0);
        x.kinds(9);
        x.lose(3);
        x.tell(0);
        x.tell(9);
        x.greet(0);
        x.greet(9);
        x.trace();
        x.many(0);
        x.many(9);
        CHECK.due("the same fault", x.fault(), 2);
        CHECK.due("the same fault again", x.fault(), 2);
    }

    /** Each call that names faults, and comes to none, makes fault() 0. */
    private static void faultGoes() {
        ThreeRefusals x = Check.valley(Check.THREE);
        for (int call = 0; call < 7; call++) {
            CHECK.due("a sheet of suitors", x.sheet(1, 2, 3), 1);
            CHECK.due("as() with a fault", x.as(1, 1), Check.CAST);
            CHECK.due("its fault", x.fault(), 2);
            switch (call) {
                case 0: CHECK.due("sheet", x.sheet(0, 0, 1), 1); break;
                case 1: CHECK.due("put", x.put(1, 0, 0), 1); break;
                case 2: CHECK.due("cell", x.cell(1, 0, 2), 0); break;
                case 3: CHECK.due("copy", x.copy(1, 0, 1, 1, 1), 1); break;
                case 4: CHECK.due("as", x.as(1, 0), 1); break;
                case 5: CHECK.due("asked", x.asked(1, 1, 2, 0, 1, 0), 9); break;
                default: CHECK.due("valley", x.valley(3, 2, 0, Check.THREE.length()), 3);
            }
            CHECK.due("no fault behind call " + call, x.fault(), 0);
        }
    }
}
