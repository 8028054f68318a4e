/** Promises 11 and 12 and Terms 3: rows who ask one maid, and whom to send, at their edges. */
public final class EdgesOfMaidTest {
    private static final Check CHECK = new Check();
    private static final Edge EDGE = new Edge(CHECK);
    private static final int BEST = 0, MINDED = 1;

    public static void main(String[] args) {
        askedUnknown();
        askedOutside();
        askedCast();
        askedNull();
        askedSize();
        askedIndex();
        askedRowOutside();
        askedNoSuitor();
        askedInOrder();
        rowsOfEveryLane();
        rowsOfEnds();
        oneTwice();
        bestByLaws();
        mindedByLaws();
        alone();
        nobodyWed();
        sentUnknown();
        sentEmpty();
        sentNone();
        sentByLaws();
        sentInTheirOrder();
        sentTheLeast();
        CHECK.end();
    }

    // ---- Promise 11: in LIVED sheet 2 holds 0, 1, 2, 0, 1, 2, 0, 1, 2, 3, -1

    private static void askedBoth(long want, int maid, int sheet, int lane, int i, int n) {
        EDGE.refused(Edge.LIVED, want, "asked", maid, sheet, lane, i, n, BEST);
        EDGE.refused(Edge.LIVED, want, "asked", maid, sheet, lane, i, n, MINDED);
    }

    private static void askedUnknown() {
        CHECK.says("Promise 11: UNKNOWN: MAID");
        askedBoth(Check.UNKNOWN, 2, 2, 2, 0, 1);
        askedBoth(Check.UNKNOWN, -1, 2, 2, 0, 1);
        CHECK.says("Promise 11: UNKNOWN: SHEET");
        askedBoth(Check.UNKNOWN, 0, 4, 2, 0, 1);
        askedBoth(Check.UNKNOWN, 0, -1, 2, 0, 1);
    }

    private static void askedOutside() {
        CHECK.says("Promise 11: OUTSIDE: lane");
        askedBoth(Check.OUTSIDE, 0, 2, 3, 0, 1);
        askedBoth(Check.OUTSIDE, 0, 2, -1, 0, 1);
        CHECK.says("Promise 11: OUTSIDE: what");
        EDGE.refused(Edge.LIVED, Check.OUTSIDE, "asked", 0, 2, 2, 0, 1, 2);
        EDGE.refused(Edge.LIVED, Check.OUTSIDE, "asked", 0, 2, 2, 0, 1, -1);
    }

    private static void askedCast() {
        CHECK.says("Promise 11: CAST");
        askedBoth(Check.CAST, 0, 2, 0, 0, 1);
        askedBoth(Check.CAST, 0, 2, 1, 0, 1);
        askedBoth(Check.CAST, 0, 1, 0, 0, 1);
        askedBoth(Check.CAST, 0, 1, 2, 0, 1);
        askedBoth(Check.CAST, 0, 0, 1, 0, 1);
        askedBoth(Check.CAST, 0, 0, 2, 0, 1);
    }

    private static void askedNull() {
        CHECK.says("Promise 11: NULL (nothing is no CAST)");
        for (int lane = 0; lane < 3; lane++) {
            askedBoth(Check.NULL, 0, 3, lane, 0, 1);
            askedBoth(Check.NULL, 1, 3, lane, 0, 0);
        }
    }

    private static void askedSize() {
        CHECK.says("Promise 11: SIZE");
        askedBoth(Check.SIZE, 0, 2, 2, 0, -1);
        askedBoth(Check.SIZE, 0, 2, 2, 11, -1);
        CHECK.says("SIZE: a length below 0; 0 is none below");
        askedBoth(Check.OUTSIDE, 0, 2, 2, 0, 0);
    }

    private static void askedIndex() {
        CHECK.says("Promise 11: INDEX");
        askedBoth(Check.INDEX, 0, 2, 2, -1, 1);
        askedBoth(Check.INDEX, 0, 2, 2, 11, 1);
        askedBoth(Check.INDEX, 0, 2, 2, 10, 2);
        askedBoth(Check.INDEX, 0, 2, 2, 4, 8);
        askedBoth(Check.INDEX, 0, 2, 2, 0, 12);
        CHECK.says("INDEX: of cells from i on also where i is not 0 .. how many there are");
        askedBoth(Check.INDEX, 0, 2, 2, -1, 0);
        askedBoth(Check.INDEX, 0, 2, 2, 12, 0);
        askedBoth(Check.OUTSIDE, 0, 2, 2, 11, 0);
    }

    private static void askedRowOutside() {
        CHECK.says("Promise 11: OUTSIDE: n is not 1 .. 8");
        askedBoth(Check.OUTSIDE, 0, 2, 2, 0, 0);
        askedBoth(Check.OUTSIDE, 0, 2, 2, 0, 9);
        askedBoth(Check.OUTSIDE, 0, 2, 2, 0, 11);
        EDGE.tells(Edge.LIVED, 2, "asked", 0, 2, 2, 0, 1, BEST);
        EDGE.tells(Edge.LIVED, 5, "asked", 0, 2, 2, 0, 8, BEST);
        EDGE.tells(Edge.LIVED, 0, "asked", 0, 2, 2, 0, 1, MINDED);
        EDGE.tells(Edge.LIVED, 5, "asked", 0, 2, 2, 0, 8, MINDED);
        CHECK.says("Promise 11: a row of 0 numbers, and of 100");
        Edge.Scene ends = x -> {
            Edge.LIVED.play(x);
            x.sheet(0, 0, 0);
            x.sheet(1, 1, 100);
        };
        EDGE.refused(ends, Check.OUTSIDE, "asked", 0, 0, 0, 0, 0, BEST);
        EDGE.refused(ends, Check.INDEX, "asked", 0, 0, 0, 0, 1, BEST);
        EDGE.refused(ends, Check.INDEX, "asked", 0, 0, 0, 1, 0, BEST);
        EDGE.refused(ends, Check.OUTSIDE, "asked", 0, 1, 1, 0, 100, BEST);
        EDGE.refused(ends, Check.INDEX, "asked", 0, 1, 1, 0, 101, BEST);
        EDGE.refused(ends, Check.OUTSIDE, "asked", 0, 1, 1, 100, 0, BEST);
        EDGE.refused(ends, Check.INDEX, "asked", 0, 1, 1, 101, 0, BEST);
        EDGE.tells(ends, 2, "asked", 0, 1, 1, 92, 8, BEST);
        EDGE.refused(ends, Check.INDEX, "asked", 0, 1, 1, 93, 8, BEST);
    }

    private static void askedNoSuitor() {
        CHECK.says("Promise 11: UNKNOWN: a SUITOR");
        askedBoth(Check.UNKNOWN, 0, 2, 2, 9, 1);
        askedBoth(Check.UNKNOWN, 0, 2, 2, 10, 1);
        askedBoth(Check.UNKNOWN, 0, 2, 2, 8, 2);
        askedBoth(Check.UNKNOWN, 0, 2, 2, 2, 8);
        askedBoth(Check.UNKNOWN, 0, 2, 2, 3, 8);
        askedBoth(Check.UNKNOWN, 1, 1, 1, 0, 3);
        CHECK.says("Promise 11: UNKNOWN, though she would have taken one ahead of him");
        Edge.Scene first = x -> {
            Edge.LIVED.play(x);
            Check.write(x, 3, 1, 3, 1, -1);
        };
        EDGE.refused(first, Check.UNKNOWN, "asked", 0, 3, 2, 0, 2, MINDED);
        EDGE.refused(first, Check.UNKNOWN, "asked", 0, 3, 2, 2, 2, MINDED);
        EDGE.tells(first, 5, "asked", 0, 3, 2, 2, 1, MINDED);
    }

    private static void askedInOrder() {
        CHECK.says("Promise 11: UNKNOWN; OUTSIDE; CAST; NULL; SIZE; INDEX; OUTSIDE; UNKNOWN");
        EDGE.refused(Edge.LIVED, Check.UNKNOWN, "asked", 2, 4, 3, -1, -1, 2);
        EDGE.refused(Edge.LIVED, Check.UNKNOWN, "asked", 2, 2, 3, -1, -1, 2);
        EDGE.refused(Edge.LIVED, Check.UNKNOWN, "asked", 0, 4, 3, -1, -1, 2);
        EDGE.refused(Edge.LIVED, Check.UNKNOWN, "asked", 2, 3, 0, -1, -1, 0);
        EDGE.refused(Edge.LIVED, Check.OUTSIDE, "asked", 0, 2, 3, -1, -1, 2);
        EDGE.refused(Edge.LIVED, Check.OUTSIDE, "asked", 0, 2, 3, -1, -1, 0);
        EDGE.refused(Edge.LIVED, Check.OUTSIDE, "asked", 0, 2, 0, -1, -1, 2);
        EDGE.refused(Edge.LIVED, Check.OUTSIDE, "asked", 0, 3, 0, -1, -1, -1);
        EDGE.refused(Edge.LIVED, Check.OUTSIDE, "asked", 0, 3, -1, -1, -1, 0);
        askedBoth(Check.CAST, 0, 2, 0, -1, -1);
        askedBoth(Check.CAST, 0, 2, 1, 0, 9);
        askedBoth(Check.NULL, 0, 3, 1, -1, -1);
        askedBoth(Check.NULL, 0, 3, 2, 1, 9);
        askedBoth(Check.SIZE, 0, 2, 2, -1, -1);
        askedBoth(Check.SIZE, 0, 2, 2, 12, -1);
        askedBoth(Check.INDEX, 0, 2, 2, 3, 9);
        askedBoth(Check.INDEX, 0, 2, 2, 12, 0);
        askedBoth(Check.INDEX, 0, 2, 2, 10, 2);
        askedBoth(Check.OUTSIDE, 0, 2, 2, 1, 9);
        askedBoth(Check.OUTSIDE, 0, 2, 2, 2, 9);
        askedBoth(Check.UNKNOWN, 0, 2, 2, 3, 8);
    }

    private static void rowsOfEveryLane() {
        CHECK.says("Promise 11: a ROW of n such cells: taken as a row of a LANE");
        for (int lane = 0; lane < 3; lane++) {
            ThreeRefusals x = Check.valley("y61;p012345;0;0;0;0;0;0");
            // 256 and 65536 more are cut away by bytes and by shorts.
            int more = lane == 0 ? 256 : lane == 1 ? 65536 : 0;
            Check.write(x, lane, lane, new int[] {9, 5 + more, 0, 3 - more, 254});
            CHECK.due("the last suitor", x.asked(0, lane, lane, 1, 1, BEST), 5);
            CHECK.due("the first one", x.asked(0, lane, lane, 2, 1, BEST), 0);
            CHECK.due("three", x.asked(0, lane, lane, 1, 3, BEST), 5);
            CHECK.due("no suitor", x.asked(0, lane, lane, 0, 1, BEST), Check.UNKNOWN);
            CHECK.due("no suitor", x.asked(0, lane, lane, 4, 1, BEST), Check.UNKNOWN);
        }
    }

    // ---- Terms 3

    /** Such a row of suitors asks maid 0: her best, what she comes to by her mind. */
    private static void row(ThreeRefusals x, int best, int minded, int... suitors) {
        Check.write(x, 0, suitors);
        String told = Calls.told("row", suitors);
        CHECK.due("BEST of " + told, x.asked(0, 0, 2, 0, suitors.length, BEST), best);
        CHECK.due("MINDED of " + told, x.asked(0, 0, 2, 0, suitors.length, MINDED), minded);
    }

    private static void rowsOfEnds() {
        CHECK.says("Terms 3: a ROW of SUITORS (1 .. 8)");
        ThreeRefusals x = Check.valley("y61;m012349;0;0;0;0;0;0");
        x.law(9);
        row(x, 9, 9, 5);
        row(x, 4, 0, 4);
        row(x, 0, 0, 0);
        row(x, 9, 9, 0, 1, 2, 3, 4, 0, 1, 5);
        row(x, 9, 9, 5, 1, 2, 3, 4, 0, 1, 2);
        row(x, 4, 0, 4, 1, 2, 3, 0, 0, 1, 2);
        row(x, 4, 0, 0, 1, 2, 3, 0, 0, 1, 4);
    }

    private static void oneTwice() {
        CHECK.says("Terms 3: a ROW of SUITORS (perhaps one twice)");
        ThreeRefusals x = Check.valley("y21;h34;0;0");
        row(x, 3, 3, 0, 0);
        x.like(0, 0, 0, 2);
        row(x, 2, 0, 0, 0);
        row(x, 2, 0, 0, 0, 0);
        row(x, 2, 2, 0, 0, 0, 0);
        row(x, 2, 2, 0, 0, 0, 0, 0, 0, 0, 0);
        row(x, 4, 4, 0, 1, 0, 1);
        row(x, 4, 2, 0, 0, 1, 0);
    }

    private static void bestByLaws() {
        CHECK.says("BEST: refusing as she wills (as often as the LAW lets her; then she must)");
        ThreeRefusals x = Check.valley("y61;m123456;0;0;0;0;0;0");
        Check.write(x, 0, 0, 1, 2, 3, 4, 5, 4, 5);
        int[] best = {1, 2, 3, 4, 5, 6, 6, 6, 6, 6};
        for (int law = 0; law <= 9; law++) {
            x.law(law);
            CHECK.due("law " + law, x.asked(0, 0, 2, 0, 8, BEST), best[law]);
            CHECK.due("law " + law + ", one", x.asked(0, 0, 2, 5, 1, BEST), 6);
        }
        Check.write(x, 0, 5, 4, 3, 2, 1, 0, 0, 0);
        for (int law = 0; law <= 9; law++) {
            x.law(law);
            CHECK.due("the first, law " + law, x.asked(0, 0, 2, 0, 8, BEST), 6);
        }
    }

    private static void mindedByLaws() {
        CHECK.says("MINDED: what LIKING she comes to by her MIND");
        ThreeRefusals x = Check.valley("y61;m012345;0;0;0;0;0;0");
        Check.write(x, 0, 4, 3, 2, 1, 0, 4, 3, 5);
        int[] minded = {4, 3, 2, 1, 0, 4, 3, 5, 5, 5};
        for (int law = 0; law <= 9; law++) {
            x.law(law);
            CHECK.due("law " + law, x.asked(0, 0, 2, 0, 8, MINDED), minded[law]);
        }
        Check.settle(x, "y61;h334567;0;0;0;0;0;0");
        x.law(9);
        row(x, 3, 3, 0);
        row(x, 7, 7, 5);
        Check.settle(x, "y61;h234566;0;0;0;0;0;0");
        x.law(9);
        row(x, 3, 0, 0, 1);
        row(x, 4, 4, 0, 2);
        row(x, 5, 5, 0, 1, 3);
        row(x, 4, 0, 0, 1, 2);
        row(x, 6, 0, 0, 1, 2, 3, 4);
        row(x, 6, 6, 0, 1, 2, 5);
    }

    private static void alone() {
        CHECK.says("BEST: who has refused all is alone: 0; MINDED: alone: 0");
        for (int law = 0; law <= 9; law++) {
            ThreeRefusals x = Check.valley("y61;m444440;0;0;0;0;0;0");
            x.law(law);
            Check.write(x, 0, 0, 1, 2, 3, 4, 0, 1, 2);
            for (int n = 1; n <= 8; n++) {
                CHECK.due(n + " by law " + law, x.asked(0, 0, 2, 0, n, MINDED), n > law ? 4 : 0);
            }
            row(x, 0, 0, 5);
            row(x, 0, 0, 5, 5, 5, 5, 5, 5, 5, 5);
        }
    }

    private static void nobodyWed() {
        CHECK.says("Terms 3: nobody wed, no refusals made");
        ThreeRefusals x = Check.valley("y22;m44;m99;00;00");
        x.offer(0, 0);
        x.offer(0, 0);
        row(x, 4, 0, 0, 1, 0);
        row(x, 4, 4, 0, 1, 0, 1);
        x.offer(0, 1);
        row(x, 4, 4, 0, 1, 0, 1);
        x.offer(1, 0);
        x.offer(1, 0);
        CHECK.due("she is wed", x.ofMaid(0, 3), 1);
        row(x, 4, 4, 0, 1, 0, 1);
        row(x, 4, 0, 1);
    }

    // ---- Promise 12

    private static void sentUnknown() {
        CHECK.says("Promise 12: UNKNOWN: MAID, SUITOR");
        EDGE.refused(Edge.LIVED, Check.UNKNOWN, "sent", 2, 0);
        EDGE.refused(Edge.LIVED, Check.UNKNOWN, "sent", -1, 0);
        EDGE.refused(Edge.LIVED, Check.UNKNOWN, "sent", 0, 3);
        EDGE.refused(Edge.LIVED, Check.UNKNOWN, "sent", 0, -1);
        EDGE.refused(Edge.LIVED, Check.UNKNOWN, "sent", 2, 3);
        EDGE.tells(Edge.LIVED, 0, "sent", 0, 2);
    }

    private static void sent(ThreeRefusals x, int... want) {
        for (int suitor = 0; suitor < want.length; suitor++) {
            CHECK.due("sent(0, " + suitor + ")", x.sent(0, suitor), want[suitor]);
        }
    }

    private static void sentEmpty() {
        CHECK.says("SENT: the fewest: the empty set, 0");
        sent(Check.valley("y11;m5;0"), 0);
        sent(Check.valley("y61;p777777;0;0;0;0;0;0"), 0, 0, 0, 0, 0, 0);
        sent(Check.valley("y31;h345;0;0;0"), 0, 0, 0);
        ThreeRefusals x = Check.valley("y61;m000000;0;0;0;0;0;0");
        x.law(0);
        sent(x, 0, 0, 0, 0, 0, 0);
    }

    private static void sentNone() {
        CHECK.says("SENT: NONE: there are none");
        int none = Check.NONE;
        sent(Check.valley("y11;m4;0"), none);
        sent(Check.valley("y31;m444;0;0;0"), none, none, none);
        sent(Check.valley("y41;m4445;0;0;0;0"), none, none, none, 0);
        sent(Check.valley("y61;h333332;0;0;0;0;0;0"), 0, 0, 0, 0, 0, none);
        ThreeRefusals x = Check.valley("y61;m444444;0;0;0;0;0;0");
        x.law(6);
        sent(x, none, none, none, none, none, none);
        x.law(9);
        sent(x, none, none, none, none, none, none);
    }

    private static void sentByLaws() {
        CHECK.says("SENT: bring her so far that she MUST take him");
        ThreeRefusals x = Check.valley("y61;m444444;0;0;0;0;0;0");
        int[] ofFirst = {0, 2, 2 + 4, 2 + 4 + 8, 2 + 4 + 8 + 16, 2 + 4 + 8 + 16 + 32};
        int[] ofLast = {0, 1, 1 + 2, 1 + 2 + 4, 1 + 2 + 4 + 8, 1 + 2 + 4 + 8 + 16};
        int[] ofThird = {0, 1, 1 + 2, 1 + 2 + 8, 1 + 2 + 8 + 16, 1 + 2 + 8 + 16 + 32};
        for (int law = 0; law <= 5; law++) {
            x.law(law);
            CHECK.due("the first, law " + law, x.sent(0, 0), ofFirst[law]);
            CHECK.due("the last, law " + law, x.sent(0, 5), ofLast[law]);
            CHECK.due("none of them the told one, law " + law, x.sent(0, 2), ofThird[law]);
        }
    }

    private static void sentInTheirOrder() {
        CHECK.says("SENT: one behind another by their numbers, all are refused by her MIND");
        ThreeRefusals x = Check.valley("y31;h233;0;0;0");
        x.law(2);
        CHECK.due("she takes 2 at once", x.sent(0, 2), 0);
        x.like(0, 2, 0, 2);
        // 1 behind 0 is refused, as her mind is 4 by then; ahead of 0 he would be taken.
        CHECK.due("0 and 1 ahead of 2", x.sent(0, 2), 1 + 2);
        x.like(0, 0, 0, 3);
        x.like(0, 1, 0, 2);
        CHECK.due("0 would be taken, 1 alone is too few", x.sent(0, 2), Check.NONE);
        x.law(1);
        CHECK.due("1 alone", x.sent(0, 2), 2);
        CHECK.says("SENT: who is sent is refused, and never must be taken");
        x = Check.valley("y31;m444;0;0;0");
        x.law(1);
        CHECK.due("one, not two", x.sent(0, 2), 1);
    }

    private static void sentTheLeast() {
        CHECK.says("SENT: as a set: of several the least");
        ThreeRefusals x = Check.valley("y61;m545444;0;0;0;0;0;0");
        x.law(2);
        CHECK.due("1 and 3", x.sent(0, 5), 2 + 8);
        CHECK.due("1 and 4", x.sent(0, 3), 2 + 16);
        CHECK.due("3 and 4", x.sent(0, 1), 8 + 16);
        x.law(3);
        CHECK.due("1, 3 and 4", x.sent(0, 5), 2 + 8 + 16);
        CHECK.due("taken of her own will", x.sent(0, 2), 0);
        CHECK.says("SENT: OFFERS aside");
        x.offer(1, 0);
        x.offer(3, 0);
        CHECK.due("1, 3 and 4", x.sent(0, 5), 2 + 8 + 16);
        x.offer(0, 0);
        CHECK.due("she is wed", x.ofMaid(0, 3), 0);
        CHECK.due("1, 3 and 4", x.sent(0, 5), 2 + 8 + 16);
    }
}
