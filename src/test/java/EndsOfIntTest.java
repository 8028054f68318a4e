/** Numbers at the ends of int in every place where a call takes one, also where two are added. */
public final class EndsOfIntTest {
    private static final int MIN = Integer.MIN_VALUE, MAX = Integer.MAX_VALUE;
    private static final Check CHECK = new Check();
    private static final Edge EDGE = new Edge(CHECK);

    public static void main(String[] args) {
        ofTheValley();
        ofOffers();
        ofMaids();
        ofWorth();
        ofSheets();
        ofParts();
        addedInValley();
        addedInAsked();
        addedInCopy();
        putIntoCells();
        cellsAsCodes();
        cellsAsSuitors();
        onANewObject();
        CHECK.end();
    }

    /** Of a call whose numbers are fine, the one at a place comes to the ends of int: its answers. */
    private static void farBy(long atMin, long atMax, String call, int place, int... numbers) {
        for (Edge.Scene scene : new Edge.Scene[] {Edge.LIVED, Edge.FULL}) {
            farIn(scene, atMin, call, numbers, place, MIN);
            farIn(scene, atMin, call, numbers, place, MIN + 1);
            farIn(scene, atMax, call, numbers, place, MAX);
            farIn(scene, atMax, call, numbers, place, MAX - 1);
        }
    }

    private static void farIn(Edge.Scene scene, long want, String call, int[] numbers, int place, int v) {
        int[] there = numbers.clone();
        there[place] = v;
        EDGE.refused(scene, want, call, there);
    }

    private static void far(String call, int place, long want, int... numbers) {
        farBy(want, want, call, place, numbers);
    }

    private static void ofTheValley() {
        CHECK.says("Promise 2, at the ends of int");
        far("valley", 0, Check.UNKNOWN, 0, 0, 0, 8);
        far("valley", 1, Check.OUTSIDE, 0, 0, 0, 8);
        far("valley", 2, Check.INDEX, 0, 0, 0, 8);
        farBy(Check.SIZE, Check.INDEX, "valley", 3, 0, 0, 0, 8);
        CHECK.says("Promise 3, at the ends of int");
        far("likes", 0, Check.UNKNOWN, 0, 0, 0);
        far("likes", 1, Check.UNKNOWN, 0, 0, 0);
        far("likes", 2, Check.OUTSIDE, 0, 0, 0);
        CHECK.says("Promise 4, at the ends of int");
        far("like", 0, Check.UNKNOWN, 0, 0, 0, 5);
        far("like", 1, Check.UNKNOWN, 0, 0, 0, 5);
        far("like", 2, Check.OUTSIDE, 0, 0, 0, 5);
        far("like", 3, Check.OUTSIDE, 0, 0, 0, 5);
        CHECK.says("Promise 5, at the ends of int");
        far("ofMaid", 0, Check.UNKNOWN, 0, 0);
        far("ofMaid", 1, Check.OUTSIDE, 0, 0);
        CHECK.says("Promise 6, at the ends of int");
        far("law", 0, Check.OUTSIDE, 3);
    }

    private static void ofOffers() {
        CHECK.says("Promise 7, at the ends of int");
        far("offer", 0, Check.UNKNOWN, 0, 0);
        far("offer", 1, Check.UNKNOWN, 0, 0);
        CHECK.says("Promise 8, at the ends of int");
        far("comes", 0, Check.UNKNOWN, 0);
        CHECK.says("Promise 9, at the ends of int");
        far("undo", 0, Check.OUTSIDE, 0);
    }

    private static void ofMaids() {
        CHECK.says("Promise 11, at the ends of int");
        for (int what = 0; what < 2; what++) {
            far("asked", 0, Check.UNKNOWN, 0, 2, 2, 0, 1, what);
            far("asked", 1, Check.UNKNOWN, 0, 2, 2, 0, 1, what);
            far("asked", 2, Check.OUTSIDE, 0, 2, 2, 0, 1, what);
            far("asked", 3, Check.INDEX, 0, 2, 2, 0, 1, what);
            farBy(Check.SIZE, Check.INDEX, "asked", 4, 0, 2, 2, 0, 1, what);
        }
        far("asked", 5, Check.OUTSIDE, 0, 2, 2, 0, 1, 0);
        CHECK.says("Promise 12, at the ends of int");
        far("sent", 0, Check.UNKNOWN, 0, 0);
        far("sent", 1, Check.UNKNOWN, 0, 0);
        CHECK.says("Promise 13, at the ends of int");
        far("firm", 0, Check.UNKNOWN, 0);
    }

    private static void ofWorth() {
        CHECK.says("Promise 15, at the ends of int");
        for (int place = 0; place < 4; place++) {
            far("worth", place, Check.LOST, 0, 1, 1, 0);
        }
        CHECK.says("Promise 16, at the ends of int");
        far("reading", 0, Check.UNKNOWN, 0, 0, 0, 1);
        far("reading", 1, Check.UNKNOWN, 0, 0, 0, 1);
        far("reading", 2, Check.OUTSIDE, 0, 0, 0, 1);
        CHECK.says("Promise 17, at the ends of int");
        far("back", 0, Check.OUTSIDE, 0);
        CHECK.says("Promise 18, at the ends of int");
        far("learnt", 0, Check.UNKNOWN, 0, 0, 0);
        far("learnt", 1, Check.UNKNOWN, 0, 0, 0);
        far("learnt", 2, Check.OUTSIDE, 0, 0, 0);
        CHECK.says("Promise 19, at the ends of int");
        far("kinds", 0, Check.UNKNOWN, 0);
    }

    private static void ofSheets() {
        CHECK.says("Promise 20, at the ends of int");
        far("sheet", 0, Check.UNKNOWN, 0, 0, 1);
        far("sheet", 1, Check.OUTSIDE, 0, 0, 1);
        farBy(Check.SIZE, Check.OUTSIDE, "sheet", 2, 0, 0, 1);
        CHECK.says("Promise 21, at the ends of int");
        far("lose", 0, Check.UNKNOWN, 0);
        CHECK.says("Promise 22, at the ends of int");
        far("put", 0, Check.UNKNOWN, 0, 0, 1);
        far("put", 1, Check.INDEX, 0, 0, 1);
        CHECK.says("Promise 23, at the ends of int");
        for (int end : new int[] {MIN, MAX}) {
            EDGE.lost(Edge.LIVED, 0, "cell", end, 0, 0);
            EDGE.lost(Edge.LIVED, 3, "cell", 0, end, 0);
            EDGE.lost(Edge.LIVED, 0, "cell", 0, 0, end);
            EDGE.lost(Edge.LIVED, 2, "cell", 0, end, 1);
            EDGE.lost(Edge.LIVED, 1, "cell", 3, end, 1);
        }
        CHECK.says("Promise 24, at the ends of int");
        far("copy", 0, Check.UNKNOWN, 0, 0, 0, 0, 1);
        far("copy", 1, Check.INDEX, 0, 0, 0, 0, 1);
        far("copy", 2, Check.UNKNOWN, 0, 0, 0, 0, 1);
        far("copy", 3, Check.INDEX, 0, 0, 0, 0, 1);
        far("copy", 4, Check.INDEX, 0, 0, 0, 0, 1);
    }

    private static void ofParts() {
        CHECK.says("Promise 25, at the ends of int");
        far("tell", 0, Check.UNKNOWN, 0);
        CHECK.says("Promise 26, at the ends of int");
        far("greet", 0, Check.UNKNOWN, 0);
        CHECK.says("Promise 27, at the ends of int");
        far("as", 0, Check.UNKNOWN, 0, 0);
        far("as", 1, Check.OUTSIDE, 0, 0);
        CHECK.says("Promise 30, at the ends of int");
        far("many", 0, Check.OUTSIDE, 0);
    }

    /** Pairs whose sum, as an int, is 0 or more though one is far off, or below 0, or about 8. */
    private static final int[][] SUMS = {
        {1, MAX}, {MAX, 1}, {MAX, MAX}, {MIN, MAX}, {MIN + 1, MAX}, {MIN + 8, MAX}, {8, MAX},
        {MAX, 0}, {MIN, 0}, {MAX, 8}, {MIN, 8}, {MAX - 7, 8}, {7, MAX - 6}, {-1, MAX}, {MAX, 2},
        {-8, 16}, {-1, 1}, {-1, 9}, {-MAX, MAX},
    };

    private static void addedInValley() {
        CHECK.says("Promise 2: INDEX, where i and n are added");
        for (int[] sum : SUMS) {
            EDGE.refused(Edge.LIVED, Check.INDEX, "valley", 0, 0, sum[0], sum[1]);
        }
        CHECK.says("Promise 2: SIZE, where i and n are added");
        for (int i : new int[] {MAX, MIN, 8, 1, 0, -1}) {
            EDGE.refused(Edge.LIVED, Check.SIZE, "valley", 0, 0, i, MIN);
            EDGE.refused(Edge.LIVED, Check.SIZE, "valley", 0, 0, i, -MAX);
            EDGE.refused(Edge.LIVED, Check.SIZE, "valley", 0, 0, i, -1);
        }
    }

    private static void addedInAsked() {
        CHECK.says("Promise 11: INDEX, where i and n are added");
        for (int[] sum : SUMS) {
            for (int what = 0; what < 2; what++) {
                EDGE.refused(Edge.LIVED, Check.INDEX, "asked", 0, 2, 2, sum[0], sum[1], what);
            }
        }
        CHECK.says("Promise 11: SIZE, where i and n are added");
        for (int i : new int[] {MAX, MIN, 11, 1, 0, -1}) {
            EDGE.refused(Edge.LIVED, Check.SIZE, "asked", 0, 2, 2, i, MIN, 0);
            EDGE.refused(Edge.LIVED, Check.SIZE, "asked", 1, 2, 2, i, -MAX, 1);
        }
    }

    private static void addedInCopy() {
        CHECK.says("Promise 24: INDEX, where i and n, j and n are added");
        for (int[] sum : SUMS) {
            EDGE.refused(Edge.LIVED, Check.INDEX, "copy", 0, sum[0], 0, 0, sum[1]);
            EDGE.refused(Edge.LIVED, Check.INDEX, "copy", 0, 0, 0, sum[0], sum[1]);
            EDGE.refused(Edge.LIVED, Check.INDEX, "copy", 0, sum[0], 0, sum[0], sum[1]);
            EDGE.refused(Edge.LIVED, Check.INDEX, "copy", 0, sum[1], 0, sum[0], 1);
        }
        for (int i : new int[] {MAX, MIN, 8, 1, 0, -1}) {
            EDGE.refused(Edge.LIVED, Check.INDEX, "copy", 0, i, 0, i, MIN);
            EDGE.refused(Edge.LIVED, Check.INDEX, "copy", 0, i, 0, 0, -MAX);
            EDGE.refused(Edge.LIVED, Check.INDEX, "copy", 0, 0, 0, i, -1);
        }
    }

    private static void putIntoCells() {
        CHECK.says("Promise 22: the ends of int, cut to the LANE (with its sign)");
        int[][] wants = {{0, -1}, {0, -1}, {MIN, MAX}};
        for (int lane = 0; lane < 3; lane++) {
            ThreeRefusals x = new ThreeRefusals();
            x.sheet(lane, lane, 2);
            CHECK.due("put the least", x.put(lane, 0, MIN), 1);
            CHECK.due("put the greatest", x.put(lane, 1, MAX), 1);
            CHECK.due("the least", x.cell(lane, 0, lane), wants[lane][0]);
            CHECK.due("the greatest", x.cell(lane, 1, lane), wants[lane][1]);
            CHECK.due("no fault", x.fault(), 0);
        }
    }

    private static void cellsAsCodes() {
        CHECK.says("FIRST FAULT: a code at an end of int");
        for (int end : new int[] {MIN, MAX}) {
            for (int place = 0; place < Check.TWO.length(); place++) {
                int[] codes = Check.codes(Check.TWO);
                codes[place] = end;
                Edge.Scene scene = x -> Check.write(x, 1, codes);
                EDGE.refused(scene, -100 - place, "valley", 1, 2, 0, codes.length);
            }
        }
    }

    private static void cellsAsSuitors() {
        CHECK.says("Promise 11: UNKNOWN: a SUITOR, of cells at the ends of int");
        for (int end : new int[] {MIN, MAX}) {
            for (int place = 0; place < 8; place++) {
                int[] row = {0, 1, 2, 2, 1, 0, 1, 2};
                row[place] = end;
                Edge.Scene scene = x -> {
                    Check.settle(x, Check.TWO);
                    Check.write(x, 1, row);
                };
                EDGE.refused(scene, Check.UNKNOWN, "asked", 0, 1, 2, 0, 8, 0);
                EDGE.refused(scene, Check.UNKNOWN, "asked", 1, 1, 2, place, 1, 1);
            }
        }
    }

    private static void onANewObject() {
        CHECK.says("Promise 1, at the ends of int");
        for (int end : new int[] {MIN, MAX}) {
            EDGE.refused(Edge.NEW, Check.UNKNOWN, "valley", end, end, end, end);
            EDGE.refused(Edge.NEW, Check.OUTSIDE, "valley", 0, end, end, end);
            EDGE.refused(Edge.NEW, Check.NULL, "valley", 0, 0, end, end);
            EDGE.refused(Edge.NEW, Check.UNKNOWN, "likes", end, end, end);
            EDGE.refused(Edge.NEW, Check.UNKNOWN, "like", end, end, end, end);
            EDGE.refused(Edge.NEW, Check.UNKNOWN, "ofMaid", end, end);
            EDGE.refused(Edge.NEW, Check.OUTSIDE, "law", end);
            EDGE.refused(Edge.NEW, Check.UNKNOWN, "offer", end, end);
            EDGE.refused(Edge.NEW, Check.UNKNOWN, "comes", end);
            EDGE.refused(Edge.NEW, Check.OUTSIDE, "undo", end);
            EDGE.refused(Edge.NEW, Check.UNKNOWN, "asked", end, end, end, end, end, end);
            EDGE.refused(Edge.NEW, Check.UNKNOWN, "sent", end, end);
            EDGE.refused(Edge.NEW, Check.UNKNOWN, "firm", end);
            EDGE.lost(Edge.NEW, 0, "worth", end, end, end, end);
            EDGE.refused(Edge.NEW, Check.UNKNOWN, "reading", end, end, end, 1);
            EDGE.refused(Edge.NEW, Check.OUTSIDE, "back", end);
            EDGE.refused(Edge.NEW, Check.UNKNOWN, "learnt", end, end, end);
            EDGE.refused(Edge.NEW, Check.UNKNOWN, "kinds", end);
            EDGE.refused(Edge.NEW, Check.UNKNOWN, "sheet", end, end, end);
            EDGE.refused(Edge.NEW, Check.UNKNOWN, "lose", end);
            EDGE.refused(Edge.NEW, Check.UNKNOWN, "put", end, end, end);
            EDGE.refused(Edge.NEW, Check.NULL, "put", 0, end, end);
            EDGE.lost(Edge.NEW, 0, "cell", end, end, end);
            EDGE.lost(Edge.NEW, 0, "cell", 0, end, end);
            EDGE.lost(Edge.NEW, 1, "cell", 0, end, 0);
            EDGE.refused(Edge.NEW, Check.UNKNOWN, "copy", end, end, end, end, end);
            EDGE.refused(Edge.NEW, Check.NULL, "copy", 0, end, 0, end, end);
            EDGE.refused(Edge.NEW, Check.UNKNOWN, "tell", end);
            EDGE.refused(Edge.NEW, Check.UNKNOWN, "greet", end);
            EDGE.refused(Edge.NEW, Check.UNKNOWN, "as", end, end);
            EDGE.refused(Edge.NEW, Check.OUTSIDE, "many", end);
        }
    }
}
