/** Promises 15 to 19 and Terms 5: worth and readings at their edges. */
public final class EdgesOfWorthTest {
    private static final Check CHECK = new Check();
    private static final Edge EDGE = new Edge(CHECK);

    public static void main(String[] args) {
        worthUnknown();
        worthOutside();
        worthOfNoneLeft();
        worthOfOne();
        worthOfFour();
        worthBeyondTheRow();
        worthInLeastTerms();
        worthOfEnds();
        worthIsOfLikingsAlone();
        readingUnknown();
        readingOutside();
        readingFull();
        readingInOrder();
        readingNumbers();
        backOutside();
        backOfSome();
        learntRefused();
        learntOfNoReadings();
        learntNone();
        learntOfEveryMind();
        learntOfOthers();
        kindsUnknown();
        kindsOfEnds();
        CHECK.end();
    }

    // ---- Promise 15

    private static void worthUnknown() {
        CHECK.says("Promise 15: LOST: UNKNOWN: MAID");
        for (int which = 0; which < 2; which++) {
            EDGE.lost(Edge.LIVED, 0, "worth", 2, 1, 0, which);
            EDGE.lost(Edge.LIVED, 0, "worth", -1, 1, 0, which);
        }
        EDGE.tells(Edge.LIVED, 4, "worth", 0, 1, 0, 0);
        EDGE.tells(Edge.LIVED, 3, "worth", 1, 1, 0, 1);
    }

    private static void worthOutside() {
        CHECK.says("Promise 15: LOST: OUTSIDE: n");
        for (int which = 0; which < 2; which++) {
            EDGE.lost(Edge.LIVED, 0, "worth", 0, 0, 0, which);
            EDGE.lost(Edge.LIVED, 0, "worth", 0, 5, 0, which);
            EDGE.lost(Edge.LIVED, 0, "worth", 0, -1, 3, which);
        }
        CHECK.says("Promise 15: LOST: OUTSIDE: r");
        for (int which = 0; which < 2; which++) {
            EDGE.lost(Edge.LIVED, 0, "worth", 0, 1, -1, which);
            EDGE.lost(Edge.LIVED, 0, "worth", 0, 4, 4, which);
        }
        CHECK.says("Promise 15: LOST: OUTSIDE: which");
        EDGE.lost(Edge.LIVED, 0, "worth", 0, 1, 0, -1);
        EDGE.lost(Edge.LIVED, 0, "worth", 0, 4, 3, 2);
    }

    private static void worth(ThreeRefusals x, int n, int r, long upper, long lower) {
        String told = " of worth by n " + n + ", r " + r;
        CHECK.due("upper" + told, x.worth(0, n, r, 0), upper);
        CHECK.due("lower" + told, x.worth(0, n, r, 1), lower);
    }

    private static void worthOfNoneLeft() {
        CHECK.says("WORTH: with none left she must take");
        ThreeRefusals x = Check.valley("y31;m129;0;0;0");
        for (int n = 1; n <= 4; n++) {
            worth(x, n, 0, 4, 1);
        }
        x = Check.valley("y21;m09;0;0");
        for (int n = 1; n <= 4; n++) {
            worth(x, n, 0, 9, 2);
        }
    }

    private static void worthOfOne() {
        CHECK.says("WORTH: n SUITORS (1): behind him she is alone: 0");
        ThreeRefusals x = Check.valley("y31;m129;0;0;0");
        for (int r = 0; r <= 3; r++) {
            worth(x, 1, r, 4, 1);
        }
    }

    private static void worthOfFour() {
        CHECK.says("WORTH: n SUITORS (4), r refusals left (0 .. 3)");
        // Of likings 0 and 8 she takes 8 and refuses 0: 4, 6, 7, 15/2.
        ThreeRefusals x = Check.valley("y21;m08;0;0");
        worth(x, 4, 0, 4, 1);
        worth(x, 4, 1, 6, 1);
        worth(x, 4, 2, 7, 1);
        worth(x, 4, 3, 15, 2);
        // Of six one is liked: 1 less (5/6) as often as she may be asked.
        x = Check.valley("y61;m000001;0;0;0;0;0;0");
        worth(x, 4, 0, 1, 6);
        worth(x, 4, 1, 11, 36);
        worth(x, 4, 2, 91, 216);
        worth(x, 4, 3, 671, 1296);
    }

    private static void worthBeyondTheRow() {
        CHECK.says("WORTH: more refusals left than SUITORS to come: she need not refuse the last");
        ThreeRefusals x = Check.valley("y21;m08;0;0");
        worth(x, 2, 1, 6, 1);
        worth(x, 2, 2, 6, 1);
        worth(x, 2, 3, 6, 1);
        worth(x, 3, 2, 7, 1);
        worth(x, 3, 3, 7, 1);
        worth(x, 3, 1, 6, 1);
    }

    private static void worthInLeastTerms() {
        CHECK.says("Terms: Shares are told as upper and lower number (above 0) in least terms");
        ThreeRefusals x = Check.valley("y61;m000002;0;0;0;0;0;0");
        worth(x, 1, 0, 1, 3);
        x.like(0, 0, 0, 1);
        worth(x, 1, 0, 1, 2);
        x.like(0, 1, 0, 3);
        worth(x, 1, 0, 1, 1);
        x.like(0, 1, 0, 2);
        worth(x, 1, 0, 5, 6);
        x.like(0, 1, 0, 7);
        worth(x, 1, 0, 5, 3);
    }

    private static void worthOfEnds() {
        CHECK.says("WORTH of LIKINGS 0 and 9, of SUITORS 1 and 6");
        String[] texts = {"y11;m0;0", "y11;m9;0", "y61;m000000;0;0;0;0;0;0", "y61;m999999;0;0;0;0;0;0"};
        for (int k = 0; k < texts.length; k++) {
            ThreeRefusals x = Check.valley(texts[k]);
            for (int n = 1; n <= 4; n++) {
                for (int r = 0; r <= 3; r++) {
                    worth(x, n, r, k % 2 * 9, 1);
                }
            }
        }
    }

    private static void worthIsOfLikingsAlone() {
        CHECK.says("WORTH: as makes it the greatest, of r refusals, offers aside");
        for (String kind : new String[] {"m", "p", "h"}) {
            ThreeRefusals x = Check.valley("y21;" + kind + "08;0;0");
            for (int law = 0; law <= 9; law += 3) {
                x.law(law);
                worth(x, 4, 3, 15, 2);
                x.offer(0, 0);
                worth(x, 4, 3, 15, 2);
            }
        }
    }

    // ---- Promises 16 and 17

    private static void readingUnknown() {
        CHECK.says("Promise 16: UNKNOWN: MAID, SUITOR");
        for (int took = 0; took < 2; took++) {
            EDGE.refused(Edge.LIVED, Check.UNKNOWN, "reading", 2, 0, 0, took);
            EDGE.refused(Edge.LIVED, Check.UNKNOWN, "reading", -1, 0, 0, took);
            EDGE.refused(Edge.LIVED, Check.UNKNOWN, "reading", 0, 3, 0, took);
            EDGE.refused(Edge.LIVED, Check.UNKNOWN, "reading", 0, -1, 0, took);
            EDGE.taken(Edge.LIVED, 2, "reading", 1, 2, 0, took);
            EDGE.taken(Edge.LIVED, 2, "reading", 0, 0, 0, took);
        }
    }

    private static void readingOutside() {
        CHECK.says("Promise 16: OUTSIDE: refused (0 .. 9)");
        for (int took = 0; took < 2; took++) {
            EDGE.refused(Edge.LIVED, Check.OUTSIDE, "reading", 0, 0, -1, took);
            EDGE.refused(Edge.LIVED, Check.OUTSIDE, "reading", 0, 0, 10, took);
            EDGE.taken(Edge.LIVED, 2, "reading", 0, 0, 0, took);
            EDGE.taken(Edge.LIVED, 2, "reading", 0, 0, 9, took);
        }
    }

    private static void readingFull() {
        CHECK.says("Terms 5: READINGS, 8 at most");
        ThreeRefusals x = Check.valley(Check.TWO);
        for (int k = 0; k < 8; k++) {
            CHECK.due("reading " + k, x.reading(1, 0, 0, true), k);
        }
        CHECK.due("how many", x.many(3), 8);
        CHECK.says("Promise 16: FULL");
        CHECK.due("one more", x.reading(1, 0, 0, false), Check.FULL);
        CHECK.due("how many", x.many(3), 8);
        CHECK.due("it is none", x.learnt(1, 0, 0), 5);
        EDGE.refused(Edge.FULL, Check.FULL, "reading", 0, 0, 0, 1);
        EDGE.refused(Edge.FULL, Check.FULL, "reading", 1, 2, 9, 0);
    }

    private static void readingInOrder() {
        CHECK.says("Promise 16: UNKNOWN; OUTSIDE; FULL, in this order");
        EDGE.refused(Edge.FULL, Check.UNKNOWN, "reading", 2, 0, 10, 1);
        EDGE.refused(Edge.FULL, Check.UNKNOWN, "reading", 0, 3, -1, 1);
        EDGE.refused(Edge.FULL, Check.UNKNOWN, "reading", 0, 3, 0, 1);
        EDGE.refused(Edge.LIVED, Check.UNKNOWN, "reading", 2, 0, 10, 1);
        EDGE.refused(Edge.FULL, Check.OUTSIDE, "reading", 0, 0, 10, 1);
        EDGE.refused(Edge.FULL, Check.OUTSIDE, "reading", 0, 0, -1, 0);
    }

    private static void readingNumbers() {
        CHECK.says("Terms 5: each numbered by how many there are ahead of it (the first one 0)");
        ThreeRefusals x = Check.valley(Check.TWO);
        CHECK.due("the first", x.reading(0, 0, 0, true), 0);
        CHECK.due("the second", x.reading(0, 0, 0, true), 1);
        x.back(2);
        CHECK.due("the first anew", x.reading(1, 0, 0, true), 0);
        for (int k = 1; k < 8; k++) {
            x.reading(1, 1, 0, false);
        }
        x.back(1);
        CHECK.due("the last anew", x.reading(0, 0, 0, true), 7);
        Check.settle(x, Check.TWO);
        CHECK.due("the first of a new valley", x.reading(0, 0, 0, true), 0);
    }

    private static void backOutside() {
        CHECK.says("Promise 17: OUTSIDE: k is not 0 .. as many as there are");
        EDGE.refused(Edge.LIVED, Check.OUTSIDE, "back", -1);
        EDGE.refused(Edge.LIVED, Check.OUTSIDE, "back", 3);
        EDGE.refused(Edge.FULL, Check.OUTSIDE, "back", 9);
        EDGE.tells(Edge.LIVED, 2, "back", 0);
        EDGE.tells(Edge.FULL, 8, "back", 0);
        EDGE.taken(Edge.LIVED, 1, "back", 1);
        EDGE.taken(Edge.LIVED, 0, "back", 2);
        EDGE.taken(Edge.FULL, 0, "back", 8);
        CHECK.says("Promise 17: of a VALLEY without READINGS");
        Edge.Scene none = x -> Check.settle(x, Check.TWO);
        EDGE.tells(none, 0, "back", 0);
        EDGE.refused(none, Check.OUTSIDE, "back", 1);
    }

    private static void backOfSome() {
        CHECK.says("Promise 17: the last k READINGS are taken back");
        for (int left = 0; left <= 8; left++) {
            ThreeRefusals x = Check.valley(Check.TWO);
            ThreeRefusals twin = Check.valley(Check.TWO);
            for (int k = 0; k < 8; k++) {
                x.reading(k % 2, k % 3, k, k < 4);
                if (k < left) {
                    twin.reading(k % 2, k % 3, k, k < 4);
                }
            }
            CHECK.due("how many are left", x.back(8 - left), left);
            CHECK.same("as if they had not been", Check.picture(x), Check.picture(twin));
        }
    }

    // ---- Promises 18 and 19

    private static void learntRefused() {
        CHECK.says("Promise 18: UNKNOWN: MAID, SUITOR");
        for (int what = 0; what < 2; what++) {
            EDGE.refused(Edge.LIVED, Check.UNKNOWN, "learnt", 2, 0, what);
            EDGE.refused(Edge.LIVED, Check.UNKNOWN, "learnt", -1, 0, what);
            EDGE.refused(Edge.LIVED, Check.UNKNOWN, "learnt", 0, 3, what);
            EDGE.refused(Edge.LIVED, Check.UNKNOWN, "learnt", 0, -1, what);
        }
        CHECK.says("Promise 18: OUTSIDE");
        EDGE.refused(Edge.LIVED, Check.OUTSIDE, "learnt", 0, 0, -1);
        EDGE.refused(Edge.LIVED, Check.OUTSIDE, "learnt", 1, 2, 2);
        CHECK.says("Promise 18: UNKNOWN; OUTSIDE, in this order");
        EDGE.refused(Edge.LIVED, Check.UNKNOWN, "learnt", 2, 0, 2);
        EDGE.refused(Edge.LIVED, Check.UNKNOWN, "learnt", 0, 3, -1);
    }

    private static void learnt(ThreeRefusals x, int maid, int suitor, int least, int greatest) {
        CHECK.due("the least of " + maid + " " + suitor, x.learnt(maid, suitor, 0), least);
        CHECK.due("the greatest of " + maid + " " + suitor, x.learnt(maid, suitor, 1), greatest);
    }

    private static void learntOfNoReadings() {
        CHECK.says("LEARNT: the least, the greatest LIKING (0 .. 9): all, of no READINGS");
        ThreeRefusals x = Check.valley("y64;m012345;p678901;h234567;m890123;"
            + "4567;8901;2345;6789;0123;4567");
        for (int maid = 0; maid < 4; maid++) {
            for (int suitor = 0; suitor < 6; suitor++) {
                learnt(x, maid, suitor, 0, 9);
            }
        }
    }

    private static void learntNone() {
        CHECK.says("Promise 18: NONE: by none");
        String[] texts = {"y11;m5;0", "y11;p5;0", "y11;h5;0"};
        for (String text : texts) {
            ThreeRefusals x = Check.valley(text);
            x.reading(0, 0, 3, true);
            x.reading(0, 0, 3, false);
            learnt(x, 0, 0, Check.NONE, Check.NONE);
        }
        ThreeRefusals x = Check.valley("y11;h5;0");
        x.reading(0, 0, 6, true);
        learnt(x, 0, 0, 9, 9);
        x.reading(0, 0, 7, true);
        learnt(x, 0, 0, Check.NONE, Check.NONE);
        x.back(2);
        x.reading(0, 0, 2, true);
        x.reading(0, 0, 3, false);
        learnt(x, 0, 0, 5, 5);
        x.reading(0, 0, 2, false);
        learnt(x, 0, 0, Check.NONE, Check.NONE);
    }

    private static void learntOfEveryMind() {
        CHECK.says("LEARNT: by which her READINGS of him are so, as often as she had refused");
        for (int refused = 0; refused <= 9; refused++) {
            learntOfMind("y11;m0;0", refused, 5);
            learntOfMind("y11;p0;0", refused, 7);
            learntOfMind("y11;h0;0", refused, 3 + refused);
        }
    }

    private static void learntOfMind(String text, int refused, int mind) {
        ThreeRefusals x = Check.valley(text);
        x.law(0);
        x.reading(0, 0, refused, true);
        learnt(x, 0, 0, mind <= 9 ? mind : Check.NONE, mind <= 9 ? 9 : Check.NONE);
        x.back(1);
        x.reading(0, 0, refused, false);
        learnt(x, 0, 0, 0, Math.min(9, mind - 1));
    }

    private static void learntOfOthers() {
        CHECK.says("LEARNT: in place of her own, her READINGS of him, not of others");
        ThreeRefusals x = Check.valley("y22;m00;m99;00;00");
        x.reading(0, 0, 0, true);
        learnt(x, 0, 0, 5, 9);
        learnt(x, 0, 1, 0, 9);
        learnt(x, 1, 0, 0, 9);
        x.reading(1, 0, 0, false);
        learnt(x, 0, 0, 5, 9);
        learnt(x, 1, 0, 0, 4);
        learnt(x, 1, 1, 0, 9);
        CHECK.due("likings stay", x.likes(0, 0, 0), 0);
    }

    private static void kindsUnknown() {
        CHECK.says("Promise 19: UNKNOWN");
        EDGE.refused(Edge.LIVED, Check.UNKNOWN, "kinds", 2);
        EDGE.refused(Edge.LIVED, Check.UNKNOWN, "kinds", -1);
        EDGE.refused(Edge.FULL, Check.UNKNOWN, "kinds", 2);
        EDGE.tells(Edge.LIVED, 1 + 4, "kinds", 0);
        EDGE.tells(Edge.LIVED, 1 + 2, "kinds", 1);
    }

    private static void kindsOfEnds() {
        CHECK.says("KINDS: (0 .. 2), by which all READINGS of her are so, as a set");
        ThreeRefusals x = Check.valley("y61;m234679;0;0;0;0;0;0");
        CHECK.due("of no READINGS: all", x.kinds(0), 7);
        int[][] seen = {
            // suitor, how often refused, taken, the set
            {0, 0, 1, 0}, {0, 0, 0, 7}, {1, 0, 1, 4}, {1, 0, 0, 3}, {1, 1, 1, 0}, {2, 1, 1, 4},
            {3, 0, 1, 5}, {3, 0, 0, 2}, {3, 3, 1, 5}, {3, 4, 1, 1}, {3, 4, 0, 6}, {4, 0, 1, 7},
            {4, 4, 1, 7}, {4, 5, 1, 3}, {4, 5, 0, 4}, {5, 6, 1, 7}, {5, 7, 1, 3}, {5, 9, 0, 4},
            {5, 0, 0, 0},
        };
        for (int[] s : seen) {
            x.reading(0, s[0], s[1], s[2] != 0);
            CHECK.due(Calls.told("kinds by", s), x.kinds(0), s[3]);
            x.back(1);
        }
        x.reading(0, 3, 0, false);
        x.reading(0, 4, 0, true);
        CHECK.due("6 refused, 7 taken", x.kinds(0), 2);
        x.reading(0, 4, 0, false);
        CHECK.due("7 refused, too: none", x.kinds(0), 0);
    }
}
