/** Promises 20 to 24 and 29 and Terms 6: sheets, cells and faults at their edges. */
public final class EdgesOfSheetsTest {
    private static final Check CHECK = new Check();
    private static final Edge EDGE = new Edge(CHECK);

    public static void main(String[] args) {
        sheetUnknown();
        sheetOutside();
        sheetSize();
        sheetInOrder();
        rowOfNone();
        rowOfHundred();
        newRow();
        loseUnknown();
        loseOfNothing();
        putUnknown();
        putNull();
        putIndex();
        putInOrder();
        cutToLanes();
        cellUnknown();
        cellOutside();
        cellCast();
        cellNull();
        cellIndex();
        cellInOrder();
        copyUnknown();
        copyNull();
        copyCast();
        copyIndex();
        copyOfNone();
        copyInOrder();
        copyOntoItself();
        copyAsTheyWere();
        faultStays();
        faultGoes();
        CHECK.end();
    }

    /** A sheet has such a row, and nothing behind it. */
    private static void row(ThreeRefusals x, int sheet, int lane, int... want) {
        for (int i = 0; i < want.length; i++) {
            CHECK.due("cell " + i + " of sheet " + sheet, x.cell(sheet, i, lane), want[i]);
        }
        CHECK.due("no more of sheet " + sheet, x.cell(sheet, want.length, lane), Check.LOST);
        CHECK.due("as it is too short", x.fault(), 3);
    }

    // ---- Promise 20

    private static void sheetUnknown() {
        CHECK.says("Promise 20: UNKNOWN");
        EDGE.refused(Edge.LIVED, Check.UNKNOWN, "sheet", 4, 0, 1);
        EDGE.refused(Edge.LIVED, Check.UNKNOWN, "sheet", -1, 0, 1);
        EDGE.taken(Edge.LIVED, 1, "sheet", 0, 0, 1);
        EDGE.taken(Edge.LIVED, 1, "sheet", 3, 2, 1);
    }

    private static void sheetOutside() {
        CHECK.says("Promise 20: OUTSIDE: lane");
        EDGE.refused(Edge.LIVED, Check.OUTSIDE, "sheet", 0, 3, 1);
        EDGE.refused(Edge.LIVED, Check.OUTSIDE, "sheet", 3, -1, 1);
        CHECK.says("Promise 20: OUTSIDE: n above 100");
        for (int lane = 0; lane < 3; lane++) {
            EDGE.refused(Edge.LIVED, Check.OUTSIDE, "sheet", 2, lane, 101);
            EDGE.taken(Edge.LIVED, 1, "sheet", 2, lane, 100);
        }
    }

    private static void sheetSize() {
        CHECK.says("Promise 20: SIZE: a length below 0");
        for (int lane = 0; lane < 3; lane++) {
            EDGE.refused(Edge.LIVED, Check.SIZE, "sheet", 1, lane, -1);
            EDGE.taken(Edge.LIVED, 1, "sheet", 1, lane, 0);
        }
        EDGE.refused(Edge.LIVED, Check.SIZE, "sheet", 3, 0, -1);
    }

    private static void sheetInOrder() {
        CHECK.says("Promise 20: UNKNOWN; OUTSIDE; SIZE, in this order");
        EDGE.refused(Edge.LIVED, Check.UNKNOWN, "sheet", 4, 3, -1);
        EDGE.refused(Edge.LIVED, Check.UNKNOWN, "sheet", 4, 0, 101);
        EDGE.refused(Edge.LIVED, Check.UNKNOWN, "sheet", -1, 0, -1);
        EDGE.refused(Edge.LIVED, Check.OUTSIDE, "sheet", 0, 3, -1);
        EDGE.refused(Edge.LIVED, Check.OUTSIDE, "sheet", 3, -1, -1);
    }

    private static void rowOfNone() {
        CHECK.says("Terms 6: a row of 0 numbers is a row, and has no cell");
        for (int lane = 0; lane < 3; lane++) {
            int own = lane;
            int another = (lane + 1) % 3;
            Edge.Scene none = x -> {
                x.sheet(1, own, 0);
                x.sheet(2, own, 3);
            };
            EDGE.lost(none, 3, "cell", 1, 0, own);
            EDGE.lost(none, 3, "cell", 1, -1, own);
            EDGE.lost(none, 2, "cell", 1, 0, another);
            EDGE.refused(none, Check.INDEX, "put", 1, 0, 7);
            EDGE.refused(none, Check.INDEX, "put", 1, -1, 7);
            EDGE.tells(none, 0, "copy", 1, 0, 1, 0, 0);
            EDGE.tells(none, 0, "copy", 1, 0, 2, 3, 0);
            EDGE.tells(none, 0, "copy", 2, 3, 1, 0, 0);
            EDGE.refused(none, Check.INDEX, "copy", 1, 0, 2, 0, 1);
            EDGE.refused(none, Check.INDEX, "copy", 2, 0, 1, 0, 1);
            EDGE.refused(none, Check.INDEX, "copy", 1, 1, 2, 0, 0);
            EDGE.refused(none, Check.INDEX, "copy", 2, 0, 1, 1, 0);
            EDGE.taken(none, 1, "lose", 1);
        }
    }

    private static void rowOfHundred() {
        CHECK.says("Terms 6: a row of 100 numbers (0 at first)");
        for (int lane = 0; lane < 3; lane++) {
            int own = lane;
            Edge.Scene most = x -> {
                x.sheet(1, own, 100);
                x.sheet(2, own, 100);
                x.put(2, 99, 9);
                x.put(2, 0, 8);
            };
            for (int i = 0; i < 100; i++) {
                EDGE.tells(most, 0, "cell", 1, i, own);
            }
            EDGE.tells(most, 9, "cell", 2, 99, own);
            EDGE.lost(most, 3, "cell", 1, 100, own);
            EDGE.taken(most, 1, "put", 1, 99, 7);
            EDGE.refused(most, Check.INDEX, "put", 1, 100, 7);
            EDGE.taken(most, 100, "copy", 2, 0, 1, 0, 100);
            EDGE.taken(most, 1, "copy", 2, 99, 1, 99, 1);
            EDGE.tells(most, 0, "copy", 2, 100, 1, 100, 0);
            EDGE.refused(most, Check.INDEX, "copy", 2, 0, 1, 0, 101);
            EDGE.refused(most, Check.INDEX, "copy", 2, 1, 1, 0, 100);
            EDGE.refused(most, Check.INDEX, "copy", 2, 0, 1, 1, 100);
            ThreeRefusals x = new ThreeRefusals();
            most.play(x);
            CHECK.due("all 100", x.copy(2, 0, 1, 0, 100), 100);
            CHECK.due("the first", x.cell(1, 0, lane), 8);
            CHECK.due("the last", x.cell(1, 99, lane), 9);
        }
    }

    private static void newRow() {
        CHECK.says("Promise 20: a SHEET gets a new row (0 at first), whatever it had");
        ThreeRefusals x = new ThreeRefusals();
        for (int from = 0; from < 3; from++) {
            for (int to = 0; to < 3; to++) {
                Check.write(x, 0, from, new int[] {1, 2, 3});
                Check.write(x, 1, from, new int[] {4});
                CHECK.due("a shorter one", x.sheet(0, to, 2), 1);
                row(x, 0, to, 0, 0);
                x.put(0, 1, 5);
                CHECK.due("a longer one", x.sheet(0, to, 4), 1);
                row(x, 0, to, 0, 0, 0, 0);
                row(x, 1, from, 4);
            }
        }
    }

    // ---- Promises 21 and 22

    private static void loseUnknown() {
        CHECK.says("Promise 21: UNKNOWN");
        EDGE.refused(Edge.LIVED, Check.UNKNOWN, "lose", 4);
        EDGE.refused(Edge.LIVED, Check.UNKNOWN, "lose", -1);
    }

    private static void loseOfNothing() {
        CHECK.says("Promise 21: 1; 0: it had nothing");
        EDGE.tells(Edge.LIVED, 0, "lose", 3);
        for (int k = 0; k < 3; k++) {
            EDGE.taken(Edge.LIVED, 1, "lose", k);
        }
        ThreeRefusals x = new ThreeRefusals();
        Edge.SHEETS.play(x);
        CHECK.due("a row", x.lose(1), 1);
        CHECK.due("nothing", x.lose(1), 0);
        CHECK.due("its cells are none", x.cell(1, 0, 1), Check.LOST);
        CHECK.due("NULL", x.fault(), 1);
        row(x, 0, 0, Check.codes("y11;p7;4"));
        x.sheet(1, 1, 3);
        row(x, 1, 1, 0, 0, 0);
    }

    private static void putUnknown() {
        CHECK.says("Promise 22: UNKNOWN");
        EDGE.refused(Edge.LIVED, Check.UNKNOWN, "put", 4, 0, 1);
        EDGE.refused(Edge.LIVED, Check.UNKNOWN, "put", -1, 0, 1);
    }

    private static void putNull() {
        CHECK.says("Promise 22: NULL");
        EDGE.refused(Edge.LIVED, Check.NULL, "put", 3, 0, 1);
    }

    private static void putIndex() {
        CHECK.says("Promise 22: INDEX");
        int[] lengths = {8, 3, 11};
        for (int k = 0; k < 3; k++) {
            EDGE.refused(Edge.LIVED, Check.INDEX, "put", k, -1, 1);
            EDGE.refused(Edge.LIVED, Check.INDEX, "put", k, lengths[k], 1);
            EDGE.taken(Edge.LIVED, 1, "put", k, lengths[k] - 1, 1);
            EDGE.taken(Edge.LIVED, 1, "put", k, 0, 1);
        }
    }

    private static void putInOrder() {
        CHECK.says("Promise 22: UNKNOWN; NULL; INDEX, in this order");
        EDGE.refused(Edge.LIVED, Check.UNKNOWN, "put", 4, -1, 1);
        EDGE.refused(Edge.LIVED, Check.NULL, "put", 3, -1, 1);
        EDGE.refused(Edge.LIVED, Check.NULL, "put", 3, 100, 1);
    }

    private static void cutToLanes() {
        CHECK.says("Terms 6: what comes to a cell of it is cut to its LANE (with its sign)");
        int[][] cuts = {
            // what comes, by bytes, by shorts, by ints
            {0, 0, 0, 0}, {1, 1, 1, 1}, {-1, -1, -1, -1}, {127, 127, 127, 127},
            {128, -128, 128, 128}, {-128, -128, -128, -128}, {-129, 127, -129, -129},
            {255, -1, 255, 255}, {256, 0, 256, 256}, {-256, 0, -256, -256},
            {32767, -1, 32767, 32767}, {32768, 0, -32768, 32768}, {-32768, 0, -32768, -32768},
            {-32769, -1, 32767, -32769}, {65535, -1, -1, 65535}, {65536, 0, 0, 65536},
            {70001, 113, 4465, 70001}, {Integer.MAX_VALUE, -1, -1, Integer.MAX_VALUE},
            {Integer.MIN_VALUE, 0, 0, Integer.MIN_VALUE},
        };
        for (int[] cut : cuts) {
            for (int lane = 0; lane < 3; lane++) {
                ThreeRefusals x = new ThreeRefusals();
                Check.write(x, lane, lane, new int[] {3, 4, 5});
                CHECK.due(cut[0] + " comes", x.put(lane, 1, cut[0]), 1);
                row(x, lane, lane, 3, cut[1 + lane], 5);
            }
        }
    }

    // ---- Promise 23

    private static void cellUnknown() {
        CHECK.says("Promise 23: LOST: UNKNOWN");
        EDGE.lost(Edge.LIVED, 0, "cell", 4, 0, 0);
        EDGE.lost(Edge.LIVED, 0, "cell", -1, 0, 0);
        EDGE.tells(Edge.LIVED, 'y', "cell", 0, 0, 0);
    }

    private static void cellOutside() {
        CHECK.says("Promise 23: LOST: OUTSIDE: lane");
        for (int k = 0; k < 4; k++) {
            EDGE.lost(Edge.LIVED, 0, "cell", k, 0, 3);
            EDGE.lost(Edge.LIVED, 0, "cell", k, 0, -1);
        }
    }

    private static void cellCast() {
        CHECK.says("Promise 23: CAST");
        int[] firsts = {'y', 5, 0};
        for (int k = 0; k < 3; k++) {
            for (int lane = 0; lane < 3; lane++) {
                if (lane == k) {
                    EDGE.tells(Edge.LIVED, firsts[k], "cell", k, 0, lane);
                } else {
                    EDGE.lost(Edge.LIVED, 2, "cell", k, 0, lane);
                }
            }
        }
    }

    private static void cellNull() {
        CHECK.says("Promise 23: CAST (nothing is no CAST), NULL");
        for (int lane = 0; lane < 3; lane++) {
            EDGE.lost(Edge.LIVED, 1, "cell", 3, 0, lane);
        }
    }

    private static void cellIndex() {
        CHECK.says("Promise 23: INDEX");
        int[] lengths = {8, 3, 11};
        int[] lasts = {'4', 7, -1};
        for (int k = 0; k < 3; k++) {
            EDGE.lost(Edge.LIVED, 3, "cell", k, -1, k);
            EDGE.lost(Edge.LIVED, 3, "cell", k, lengths[k], k);
            EDGE.tells(Edge.LIVED, lasts[k], "cell", k, lengths[k] - 1, k);
        }
    }

    private static void cellInOrder() {
        CHECK.says("Promise 23: UNKNOWN, OUTSIDE; CAST, NULL, INDEX, in this order");
        EDGE.lost(Edge.LIVED, 0, "cell", 4, -1, 3);
        EDGE.lost(Edge.LIVED, 0, "cell", -1, -1, 0);
        EDGE.lost(Edge.LIVED, 0, "cell", 0, -1, 3);
        EDGE.lost(Edge.LIVED, 0, "cell", 3, -1, -1);
        EDGE.lost(Edge.LIVED, 2, "cell", 0, -1, 1);
        EDGE.lost(Edge.LIVED, 2, "cell", 2, 11, 0);
        EDGE.lost(Edge.LIVED, 1, "cell", 3, -1, 1);
        EDGE.lost(Edge.LIVED, 3, "cell", 0, -1, 0);
    }

    // ---- Promise 24

    private static void copyUnknown() {
        CHECK.says("Promise 24: UNKNOWN");
        EDGE.refused(Edge.LIVED, Check.UNKNOWN, "copy", 4, 0, 0, 0, 1);
        EDGE.refused(Edge.LIVED, Check.UNKNOWN, "copy", -1, 0, 0, 0, 1);
        EDGE.refused(Edge.LIVED, Check.UNKNOWN, "copy", 0, 0, 4, 0, 1);
        EDGE.refused(Edge.LIVED, Check.UNKNOWN, "copy", 0, 0, -1, 0, 1);
    }

    private static void copyNull() {
        CHECK.says("Promise 24: NULL (the first, the other)");
        EDGE.refused(Edge.LIVED, Check.NULL, "copy", 3, 0, 0, 0, 1);
        EDGE.refused(Edge.LIVED, Check.NULL, "copy", 0, 0, 3, 0, 1);
        EDGE.refused(Edge.LIVED, Check.NULL, "copy", 3, 0, 3, 0, 1);
        EDGE.refused(Edge.LIVED, Check.NULL, "copy", 3, 0, 3, 0, 0);
    }

    private static void copyCast() {
        CHECK.says("Promise 24: CAST (unlike LANES)");
        for (int k = 0; k < 3; k++) {
            for (int other = 0; other < 3; other++) {
                if (k != other) {
                    EDGE.refused(Edge.LIVED, Check.CAST, "copy", k, 0, other, 0, 1);
                    EDGE.refused(Edge.LIVED, Check.CAST, "copy", k, 0, other, 0, 0);
                }
            }
        }
    }

    /** LIVED, and on sheet 3 a row of four shorts; sheet 1 has three. */
    private static final Edge.Scene TWO_ROWS = x -> {
        Edge.LIVED.play(x);
        Check.write(x, 3, 1, new int[] {1, 2, 3, 4});
    };

    private static void copyIndex() {
        CHECK.says("Promise 24: INDEX: i, j, n below 0");
        EDGE.refused(TWO_ROWS, Check.INDEX, "copy", 1, -1, 3, 0, 1);
        EDGE.refused(TWO_ROWS, Check.INDEX, "copy", 1, 0, 3, -1, 1);
        EDGE.refused(TWO_ROWS, Check.INDEX, "copy", 1, 0, 3, 0, -1);
        EDGE.refused(TWO_ROWS, Check.INDEX, "copy", 1, 3, 3, 4, -1);
        EDGE.refused(TWO_ROWS, Check.INDEX, "copy", 1, 1, 1, 1, -1);
        CHECK.says("Promise 24: INDEX: i, j, n beyond");
        EDGE.refused(TWO_ROWS, Check.INDEX, "copy", 1, 0, 3, 0, 4);
        EDGE.refused(TWO_ROWS, Check.INDEX, "copy", 3, 0, 1, 0, 4);
        EDGE.refused(TWO_ROWS, Check.INDEX, "copy", 1, 1, 3, 0, 3);
        EDGE.refused(TWO_ROWS, Check.INDEX, "copy", 1, 3, 3, 0, 1);
        EDGE.refused(TWO_ROWS, Check.INDEX, "copy", 1, 0, 3, 2, 3);
        EDGE.refused(TWO_ROWS, Check.INDEX, "copy", 1, 0, 3, 4, 1);
        EDGE.refused(TWO_ROWS, Check.INDEX, "copy", 3, 3, 3, 2, 2);
        EDGE.taken(TWO_ROWS, 3, "copy", 1, 0, 3, 1, 3);
        EDGE.taken(TWO_ROWS, 3, "copy", 3, 1, 1, 0, 3);
    }

    private static void copyOfNone() {
        CHECK.says("INDEX: of cells from i on also where i is not 0 .. how many there are, if none"
            + " of them is taken, too");
        EDGE.tells(TWO_ROWS, 0, "copy", 1, 0, 3, 0, 0);
        EDGE.tells(TWO_ROWS, 0, "copy", 1, 3, 3, 4, 0);
        EDGE.refused(TWO_ROWS, Check.INDEX, "copy", 1, -1, 3, 0, 0);
        EDGE.refused(TWO_ROWS, Check.INDEX, "copy", 1, 4, 3, 0, 0);
        EDGE.refused(TWO_ROWS, Check.INDEX, "copy", 1, 0, 3, -1, 0);
        EDGE.refused(TWO_ROWS, Check.INDEX, "copy", 1, 0, 3, 5, 0);
        EDGE.refused(TWO_ROWS, Check.INDEX, "copy", 1, 4, 1, 4, 0);
    }

    private static void copyInOrder() {
        CHECK.says("Promise 24: UNKNOWN; NULL, CAST, INDEX, in this order");
        EDGE.refused(Edge.LIVED, Check.UNKNOWN, "copy", 4, -1, 3, -1, -1);
        EDGE.refused(Edge.LIVED, Check.UNKNOWN, "copy", 3, -1, 4, -1, -1);
        EDGE.refused(Edge.LIVED, Check.UNKNOWN, "copy", -1, -1, -1, -1, -1);
        EDGE.refused(Edge.LIVED, Check.NULL, "copy", 3, -1, 0, -1, -1);
        EDGE.refused(Edge.LIVED, Check.NULL, "copy", 1, -1, 3, -1, -1);
        EDGE.refused(Edge.LIVED, Check.NULL, "copy", 3, -1, 3, -1, -1);
        EDGE.refused(Edge.LIVED, Check.CAST, "copy", 0, -1, 1, -1, -1);
        EDGE.refused(Edge.LIVED, Check.CAST, "copy", 2, 0, 1, 0, 99);
        EDGE.refused(Edge.LIVED, Check.INDEX, "copy", 0, -1, 0, -1, -1);
    }

    private static void copyOntoItself() {
        CHECK.says("Promise 24: to another one (perhaps the same), as they were");
        for (int lane = 0; lane < 3; lane++) {
            ThreeRefusals x = new ThreeRefusals();
            Check.write(x, 0, lane, new int[] {1, 2, 3, 4, 5});
            CHECK.due("up by one", x.copy(0, 0, 0, 1, 4), 4);
            row(x, 0, lane, 1, 1, 2, 3, 4);
            CHECK.due("down by two", x.copy(0, 2, 0, 0, 3), 3);
            row(x, 0, lane, 2, 3, 4, 3, 4);
            CHECK.due("all where they are", x.copy(0, 0, 0, 0, 5), 5);
            row(x, 0, lane, 2, 3, 4, 3, 4);
            CHECK.due("the first to the last", x.copy(0, 0, 0, 4, 1), 1);
            row(x, 0, lane, 2, 3, 4, 3, 2);
        }
    }

    private static void copyAsTheyWere() {
        CHECK.says("Promise 24: n cells go to another one, as they were: the ends of each LANE");
        int[][] ends = {
            {-128, 127}, {-32768, 32767}, {Integer.MIN_VALUE, Integer.MAX_VALUE},
        };
        for (int lane = 0; lane < 3; lane++) {
            ThreeRefusals x = new ThreeRefusals();
            Check.write(x, 0, lane, new int[] {7, ends[lane][0], ends[lane][1], 8});
            Check.write(x, 3, lane, new int[] {1, 2, 3});
            CHECK.due("two of them", x.copy(0, 1, 3, 1, 2), 2);
            row(x, 3, lane, 1, ends[lane][0], ends[lane][1]);
            row(x, 0, lane, 7, ends[lane][0], ends[lane][1], 8);
            x.put(0, 1, 5);
            row(x, 3, lane, 1, ends[lane][0], ends[lane][1]);
        }
    }

    // ---- Promise 29

    private static void faultStays() {
        CHECK.says("Promise 29: the latest call that names one: a call that names none lets it stay");
        String[] calls = {
            "likes 0 0 0", "likes 9 0 0", "like 0 0 0 5", "like 0 0 0 10", "ofMaid 0 3", "ofMaid 0 4",
            "law 3", "law 10", "offer 0 0", "offer 9 0", "comes 0", "comes 9", "undo 1", "undo 9",
            "pairs", "sent 0 0", "sent 0 9", "firm -1", "firm 9", "brought", "worth 0 1 1 0",
            "worth 9 1 1 0", "worth 0 5 1 0", "reading 0 0 0 1", "reading 0 0 10 1", "back 1", "back 9",
            "learnt 0 0 0", "learnt 0 0 2", "kinds 0", "kinds 9", "lose 0", "lose 3", "lose 9", "tell 0",
            "tell 9", "greet 0", "greet 9", "trace", "fault", "many 0", "many 9",
        };
        for (String call : calls) {
            String[] parts = call.split(" ");
            int[] numbers = new int[parts.length - 1];
            for (int k = 0; k < numbers.length; k++) {
                numbers[k] = Integer.parseInt(parts[1 + k]);
            }
            ThreeRefusals x = new ThreeRefusals();
            Edge.LIVED.play(x);
            for (int fault = 1; fault <= 4; fault++) {
                fault(x, fault);
                Calls.answer(x, parts[0], numbers);
                CHECK.due("fault() behind " + call, x.fault(), fault);
            }
        }
    }

    /** Comes to such a fault, and changes nothing else. */
    private static void fault(ThreeRefusals x, int fault) {
        switch (fault) {
            case 1: x.valley(3, 0, 0, 0); break;
            case 2: x.as(1, 2); break;
            case 3: x.cell(2, -1, 2); break;
            default: x.sheet(0, 0, -1);
        }
        CHECK.due("such a fault", x.fault(), fault);
    }

    private static void faultGoes() {
        CHECK.says("Promise 29: 0: it came to none, or was refused");
        int[][] calls = {
            // what, its answer, its numbers
            {0, 1, 1, 1, 3}, {0, Check.UNKNOWN, 4, 1, 3}, {0, Check.OUTSIDE, 1, 1, 101},
            {1, 1, 1, 0, 9}, {1, Check.UNKNOWN, 4, 0, 9},
            {2, 9, 1, 0, 1}, {3, 2, 2, 0, 2, 3, 2}, {3, Check.UNKNOWN, 2, 0, 4, 3, 2},
            {4, 1, 0, 2}, {4, Check.UNKNOWN, 2, 0}, {4, Check.OUTSIDE, 0, 3},
            {5, 5, 0, 2, 2, 0, 2, 0}, {5, Check.OUTSIDE, 0, 2, 2, 0, 9, 0},
            {5, Check.UNKNOWN, 0, 2, 2, 9, 1, 0}, {6, -100, 2, 2, 0, 8}, {6, Check.OUTSIDE, 0, 3, 0, 8},
            {6, 1, 0, 0, 0, 8},
        };
        String[] names = {"sheet", "put", "cell", "copy", "as", "asked", "valley"};
        for (int fault = 1; fault <= 4; fault++) {
            ThreeRefusals x = new ThreeRefusals();
            Edge.LIVED.play(x);
            for (int[] c : calls) {
                fault(x, fault);
                int[] numbers = java.util.Arrays.copyOfRange(c, 2, c.length);
                String told = Calls.told(names[c[0]], numbers);
                CHECK.due(told, Calls.answer(x, names[c[0]], numbers), c[1]);
                CHECK.due("fault() behind " + told, x.fault(), 0);
                CHECK.due("fault() again", x.fault(), 0);
            }
        }
    }
}
