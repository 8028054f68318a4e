/** Promise 15: worth. */
public final class WorthTest {
    private static final Check CHECK = new Check();

    public static void main(String[] args) {
        oneSuitor();
        shares();
        lawAndMindAreAside();
        refused();
        CHECK.end();
    }

    private static void worth(ThreeRefusals x, int n, int r, long upper, long lower) {
        CHECK.due("worth upper " + n + " " + r, x.worth(0, n, r, 0), upper);
        CHECK.due("worth lower " + n + " " + r, x.worth(0, n, r, 1), lower);
    }

    private static void oneSuitor() {
        ThreeRefusals x = Check.valley("y11;m9;0");
        for (int n = 1; n <= 4; n++) {
            for (int r = 0; r <= 3; r++) {
                worth(x, n, r, 9, 1);
            }
        }
        x.like(0, 0, 0, 0);
        for (int n = 1; n <= 4; n++) {
            for (int r = 0; r <= 3; r++) {
                worth(x, n, r, 0, 1);
            }
        }
    }

    private static void shares() {
        // Likings 0 and 8: the mean is 4; who may refuse once takes 8 or waits for 4.
        ThreeRefusals x = Check.valley("y21;m08;0;0");
        worth(x, 1, 0, 4, 1);
        worth(x, 1, 3, 4, 1);
        worth(x, 2, 0, 4, 1);
        worth(x, 2, 1, 6, 1);
        worth(x, 3, 1, 6, 1);
        worth(x, 3, 2, 7, 1);
        worth(x, 4, 2, 7, 1);
        worth(x, 4, 3, 15, 2);
        // Likings 1, 2, 4: the mean is 7/3; then (7/3 + 7/3 + 4) / 3 = 26/9; (2 * 26/9 + 4) / 3.
        Check.settle(x, "y31;p124;0;0;0");
        worth(x, 1, 1, 7, 3);
        worth(x, 4, 0, 7, 3);
        worth(x, 2, 1, 26, 9);
        worth(x, 3, 2, 88, 27);
        worth(x, 4, 3, 284, 81);
        // Six suitors, one of them liked.
        Check.settle(x, "y61;h000001;0;0;0;0;0;0");
        worth(x, 1, 0, 1, 6);
        worth(x, 2, 1, 11, 36);
        worth(x, 3, 2, 91, 216);
        worth(x, 4, 3, 671, 1296);
        worth(x, 4, 1, 11, 36);
    }

    private static void lawAndMindAreAside() {
        ThreeRefusals x = Check.valley("y22;m00;m08;00;00");
        x.law(0);
        x.offer(0, 1);
        CHECK.due("another maid", x.worth(1, 4, 3, 0), 15);
        CHECK.due("another maid", x.worth(1, 4, 3, 1), 2);
        CHECK.due("the first", x.worth(0, 4, 3, 0), 0);
        CHECK.due("the first", x.worth(0, 4, 3, 1), 1);
    }

    private static void refused() {
        ThreeRefusals x = Check.valley("y21;m08;0;0");
        int[][] calls = {
            {-1, 1, 0, 0}, {1, 1, 0, 0}, {0, 0, 0, 0}, {0, 5, 0, 0}, {0, 1, -1, 0}, {0, 1, 4, 0},
            {0, 1, 0, -1}, {0, 1, 0, 2}, {0, -1, 0, 1}, {0, Integer.MAX_VALUE, 3, 1},
        };
        for (int[] c : calls) {
            CHECK.due("lost", x.worth(c[0], c[1], c[2], c[3]), Check.LOST);
        }
    }
}
