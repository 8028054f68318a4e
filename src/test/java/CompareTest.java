/** Long runs of calls of all kinds, each answer beside that of Naive. */
public final class CompareTest {
    private static final Check CHECK = new Check();
    private static final int RUNS = 1800;
    /** An object is good for 512 calls, and the last step may take some seventy. */
    private static final int CALLS = 430;
    private static final int[] FAR = {
        Integer.MIN_VALUE, Integer.MIN_VALUE + 1, -101, -10, -2, -1, 7, 8, 9, 10, 24, 25, 99, 100, 101,
        127, 128, 255, 32768, 65536, Integer.MAX_VALUE - 1, Integer.MAX_VALUE,
    };

    /** A row of numbers that is the same each time. */
    private long state;
    private final ThreeRefusals x = new ThreeRefusals();
    private final Naive y = new Naive();
    private final int run;

    private CompareTest(int run) {
        this.run = run;
        this.state = 0x9E3779B97F4A7C15L * (run + 1);
    }

    public static void main(String[] args) {
        for (int run = 0; run < RUNS; run++) {
            CompareTest test = new CompareTest(run);
            int calls = 0;
            while (calls < CALLS) {
                calls += test.step();
            }
        }
        everySmallValley();
        CHECK.end();
    }

    private int below(int bound) {
        state ^= state << 13;
        state ^= state >>> 7;
        state ^= state << 17;
        return (int) Math.floorMod(state >>> 8, (long) bound);
    }

    /** Mostly 0 .. bound - 1, now and then a bit beyond, seldom far off. */
    private int about(int bound) {
        int dice = below(24);
        if (dice == 0) {
            return FAR[below(FAR.length)];
        }
        return dice < 3 ? below(bound + 3) - 1 : below(bound);
    }

    private void same(String call, long got, long want) {
        CHECK.due("run " + run + ": " + call, got, want);
    }

    private int step() {
        int dice = below(100);
        if (dice < 4) {
            return writeText();
        }
        if (dice < 8) {
            return writeRow();
        }
        if (dice < 30) {
            return stepOfSheets();
        }
        if (dice < 50) {
            return stepOfOffers();
        }
        if (dice < 70) {
            return stepOfMaids();
        }
        if (dice < 75) {
            return stepOfMatches();
        }
        return dice < 90 ? stepOfReadings() : stepOfParts();
    }

    private String someText() {
        int suitors = 1 + below(6);
        int maids = 1 + below(4);
        int most = below(3) == 0 ? 3 : 10;
        StringBuilder text = new StringBuilder("y").append(suitors).append(maids);
        for (int m = 0; m < maids; m++) {
            text.append(';').append("mph".charAt(below(3)));
            for (int s = 0; s < suitors; s++) {
                text.append(below(most));
            }
        }
        for (int s = 0; s < suitors; s++) {
            text.append(';');
            for (int m = 0; m < maids; m++) {
                text.append(below(most));
            }
        }
        if (below(4) == 0) {
            text.setCharAt(below(text.length()), "y12mph;/:09x".charAt(below(12)));
        }
        if (below(8) == 0) {
            text.append("09;".charAt(below(3)));
        }
        if (below(8) == 0) {
            text.setLength(below(text.length()));
        }
        return text.toString();
    }

    private int writeText() {
        String text = someText();
        int sheet = below(4);
        int lane = below(3);
        int ahead = below(3);
        int calls = 2;
        int n = text.length() + ahead;
        same("sheet", x.sheet(sheet, lane, n), y.sheet(sheet, lane, n));
        for (int i = 0; i < text.length(); i++) {
            int code = text.charAt(i) + (below(200) == 0 ? 256 << 8 * below(3) : 0);
            same("put", x.put(sheet, ahead + i, code), y.put(sheet, ahead + i, code));
            calls++;
        }
        same("valley " + text, x.valley(sheet, lane, ahead, text.length()),
            y.valley(sheet, lane, ahead, text.length()));
        return calls;
    }

    private int writeRow() {
        int sheet = below(4);
        int lane = below(3);
        int length = 1 + below(9);
        same("sheet", x.sheet(sheet, lane, length), y.sheet(sheet, lane, length));
        for (int i = 0; i < length; i++) {
            int suitor = below(30) == 0 ? about(6) : below(Math.max(1, y.many(0)));
            same("put", x.put(sheet, i, suitor), y.put(sheet, i, suitor));
        }
        for (int maid = 0; maid < y.many(1); maid++) {
            int what = below(2);
            int i = below(3);
            same("asked", x.asked(maid, sheet, lane, i, length - i, what),
                y.asked(maid, sheet, lane, i, length - i, what));
        }
        return 5 + length;
    }

    private int stepOfSheets() {
        int k = about(4);
        int lane = about(3);
        int i = about(10);
        int n = about(9);
        switch (below(9)) {
            case 0: {
                int length = about(101);
                same("sheet", x.sheet(k, lane, length), y.sheet(k, lane, length));
                break;
            }
            case 1: same("lose", x.lose(k), y.lose(k)); break;
            case 2: {
                int v = below(2) == 0 ? about(128) : (int) state;
                same("put", x.put(k, i, v), y.put(k, i, v));
                break;
            }
            case 3: same("cell", x.cell(k, i, lane), y.cell(k, i, lane)); break;
            case 4: {
                int other = about(4);
                int j = about(10);
                same("copy", x.copy(k, i, other, j, n), y.copy(k, i, other, j, n));
                break;
            }
            case 5: same("valley", x.valley(k, lane, i, n), y.valley(k, lane, i, n)); break;
            default: {
                int maid = about(Math.max(1, y.many(1)));
                int what = about(2);
                same("asked", x.asked(maid, k, lane, i, n, what), y.asked(maid, k, lane, i, n, what));
            }
        }
        same("fault()", x.fault(), y.fault());
        return 2;
    }

    private int someMaid() {
        return about(Math.max(1, y.many(1)));
    }

    private int someSuitor() {
        return about(Math.max(1, y.many(0)));
    }

    private int stepOfOffers() {
        int suitor = someSuitor();
        int maid = someMaid();
        switch (below(10)) {
            case 0: {
                int k = below(2) == 0 ? about(3) : about(25);
                same("undo", x.undo(k), y.undo(k));
                break;
            }
            case 1: {
                int law = about(below(3) == 0 ? 10 : 4);
                same("law", x.law(law), y.law(law));
                break;
            }
            case 2: case 3: {
                int what = about(2);
                int v = about(10);
                same("like", x.like(maid, suitor, what, v), y.like(maid, suitor, what, v));
                break;
            }
            default: same("offer", x.offer(suitor, maid), y.offer(suitor, maid));
        }
        int offer = about(Math.max(1, y.many(2)));
        same("comes", x.comes(offer), y.comes(offer));
        same("pairs", x.pairs(), y.pairs());
        return 3;
    }

    private int stepOfMaids() {
        int maid = someMaid();
        int suitor = someSuitor();
        int what = about(4);
        same("likes", x.likes(maid, suitor, what), y.likes(maid, suitor, what));
        same("ofMaid", x.ofMaid(maid, what), y.ofMaid(maid, what));
        same("sent", x.sent(maid, suitor), y.sent(maid, suitor));
        return 3;
    }

    private int stepOfMatches() {
        int suitor = about(Math.max(1, y.many(0)) + 1) - 1;
        if (below(5) == 0) {
            same("brought", x.brought(), y.brought());
        }
        if (below(5) == 0) {
            same("firm(-1)", x.firm(-1), y.firm(-1));
        }
        same("firm", x.firm(suitor), y.firm(suitor));
        return 3;
    }

    private int stepOfReadings() {
        int maid = someMaid();
        int suitor = someSuitor();
        if (below(8) == 0) {
            int k = about(9);
            same("back", x.back(k), y.back(k));
        } else {
            int refused = about(10);
            boolean took = below(2) == 0;
            same("reading", x.reading(maid, suitor, refused, took),
                y.reading(maid, suitor, refused, took));
        }
        int what = about(2);
        same("learnt", x.learnt(maid, suitor, what), y.learnt(maid, suitor, what));
        same("kinds", x.kinds(maid), y.kinds(maid));
        return 3;
    }

    private int stepOfParts() {
        int maid = someMaid();
        int kind = about(3);
        int what = about(5);
        same("tell", x.tell(maid), y.tell(maid));
        same("greet", x.greet(maid), y.greet(maid));
        same("trace", x.trace(), y.trace());
        same("as", x.as(maid, kind), y.as(maid, kind));
        same("fault()", x.fault(), y.fault());
        same("many", x.many(what), y.many(what));
        return 6;
    }

    /** Worth is dear for Naive, so it is compared here, where suitors are few. */
    private static void everySmallValley() {
        for (int k = 0; k < 60; k++) {
            CompareTest test = new CompareTest(RUNS + k);
            int suitors = k < 50 ? 1 + k % 3 : 4 + k % 3;
            StringBuilder text = new StringBuilder("y").append(suitors).append("1;h");
            for (int s = 0; s < suitors; s++) {
                text.append(test.below(10));
            }
            text.append(";0".repeat(suitors));
            test.settle(text.toString());
            for (int n = 0; n <= 5; n++) {
                for (int r = -1; r <= 4; r++) {
                    if (suitors > 3 && Math.min(n, r) > 2) {
                        continue;
                    }
                    for (int which = -1; which <= 2; which++) {
                        test.same("worth of " + text + " " + n + " " + r,
                            test.x.worth(0, n, r, which), test.y.worth(0, n, r, which));
                    }
                }
            }
        }
    }

    private void settle(String text) {
        x.sheet(0, 0, text.length());
        y.sheet(0, 0, text.length());
        for (int i = 0; i < text.length(); i++) {
            x.put(0, i, text.charAt(i));
            y.put(0, i, text.charAt(i));
        }
        same("valley", x.valley(0, 0, 0, text.length()), y.valley(0, 0, 0, text.length()));
    }
}
