/** Promises 11 and 12: asked, sent. */
public final class MaidTest {
    private static final Check CHECK = new Check();
    private static final String SIX = "y62;m412345;h222322;00;00;00;00;00;00";

    public static void main(String[] args) {
        best();
        minded();
        askedIsNotOfOffers();
        askedRefused();
        askedFaults();
        sent();
        sentOfHeiress();
        sentRefused();
        CHECK.end();
    }

    private static void best() {
        ThreeRefusals x = Check.valley(SIX);
        Check.write(x, 0, 1, 2, 3, 4, 5, 0, 1, 1);
        CHECK.due("the fourth at the latest", x.asked(0, 0, 2, 0, 8, 0), 4);
        CHECK.due("of one", x.asked(0, 0, 2, 4, 1, 0), 5);
        CHECK.due("of two", x.asked(0, 0, 2, 4, 2, 0), 5);
        CHECK.due("she may take an earlier one", x.asked(0, 0, 2, 4, 4, 0), 5);
        x.law(9);
        CHECK.due("law 9", x.asked(0, 0, 2, 0, 8, 0), 5);
        x.law(0);
        CHECK.due("law 0", x.asked(0, 0, 2, 0, 8, 0), 1);
        x.law(1);
        CHECK.due("law 1", x.asked(0, 0, 2, 0, 8, 0), 2);
        x.like(0, 1, 0, 0);
        CHECK.due("who is liked 0", x.asked(0, 0, 2, 0, 1, 0), 0);
        CHECK.due("one asks twice", x.asked(0, 0, 2, 6, 2, 0), 0);
    }

    private static void minded() {
        ThreeRefusals x = Check.valley(SIX);
        Check.write(x, 0, 1, 2, 3, 4, 5, 0, 1, 1);
        CHECK.due("the fourth, as she must", x.asked(0, 0, 2, 0, 8, 1), 4);
        CHECK.due("three only: alone", x.asked(0, 0, 2, 0, 3, 1), 0);
        CHECK.due("5 is enough", x.asked(0, 0, 2, 3, 4, 1), 5);
        CHECK.due("the first is enough", x.asked(0, 0, 2, 4, 1, 1), 5);
        x.law(0);
        CHECK.due("law 0", x.asked(0, 0, 2, 0, 8, 1), 1);
        x.law(9);
        CHECK.due("law 9", x.asked(0, 0, 2, 0, 8, 1), 5);
        CHECK.due("law 9, four: alone", x.asked(0, 0, 2, 0, 4, 1), 0);
        x.law(3);
        CHECK.due("3 is an heiress's mind", x.asked(1, 0, 2, 2, 1, 1), 3);
        CHECK.due("but not behind a refusal", x.asked(1, 0, 2, 1, 2, 1), 0);
        CHECK.due("who must takes 2", x.asked(1, 0, 2, 0, 4, 1), 2);
        CHECK.due("best of it", x.asked(1, 0, 2, 0, 4, 0), 3);
    }

    private static void askedIsNotOfOffers() {
        ThreeRefusals x = Check.valley(SIX);
        Check.write(x, 0, 1, 2, 3, 4, 5);
        x.offer(1, 0);
        x.offer(2, 0);
        x.offer(5, 0);
        CHECK.due("wed", x.ofMaid(0, 3), 5);
        CHECK.due("as if nobody were", x.asked(0, 0, 2, 0, 5, 0), 4);
        CHECK.due("as if nobody were", x.asked(0, 0, 2, 0, 5, 1), 4);
        CHECK.due("nothing comes of it", x.many(2), 3);
        CHECK.due("sent: offers aside", x.sent(0, 5), 0);
        CHECK.due("sent: offers aside", x.sent(0, 4), 1 + 2 + 4);
    }

    private static void askedRefused() {
        ThreeRefusals x = Check.valley(SIX);
        Check.write(x, 0, 0, 1, 2, 3, 4, 5, 6, -1, 0, 1);
        asked(x, x.asked(2, 4, 3, -1, -1, 2), Check.UNKNOWN);
        asked(x, x.asked(-1, 0, 2, 0, 1, 0), Check.UNKNOWN);
        asked(x, x.asked(0, 4, 3, 0, 1, 2), Check.UNKNOWN);
        asked(x, x.asked(0, -1, 2, 0, 1, 0), Check.UNKNOWN);
        asked(x, x.asked(0, 0, 3, -1, -1, 0), Check.OUTSIDE);
        asked(x, x.asked(0, 0, -1, 0, 1, 0), Check.OUTSIDE);
        asked(x, x.asked(0, 0, 2, -1, -1, 2), Check.OUTSIDE);
        asked(x, x.asked(0, 1, 2, 0, 1, -1), Check.OUTSIDE);
        asked(x, x.asked(0, 0, 2, 0, 0, 0), Check.OUTSIDE);
        asked(x, x.asked(0, 0, 2, 10, 0, 1), Check.OUTSIDE);
        asked(x, x.asked(0, 0, 2, 0, 9, 0), Check.OUTSIDE);
        asked(x, x.asked(0, 0, 2, 0, 10, 1), Check.OUTSIDE);
        asked(x, x.asked(0, 0, 2, 6, 1, 0), Check.UNKNOWN);
        asked(x, x.asked(0, 0, 2, 7, 1, 1), Check.UNKNOWN);
        asked(x, x.asked(0, 0, 2, 0, 7, 0), Check.UNKNOWN);
        asked(x, x.asked(0, 0, 2, 2, 8, 1), Check.UNKNOWN);
        asked(x, x.asked(0, 0, 2, 0, 6, 0), 4);
    }

    /** A call that came to no fault. */
    private static void asked(ThreeRefusals x, int got, int want) {
        CHECK.due("asked", got, want);
        CHECK.due("fault()", x.fault(), 0);
        x.put(2, 0, 0);
        CHECK.due("another fault ahead of the next", x.fault(), 1);
    }

    private static void askedFaults() {
        ThreeRefusals x = Check.valley(SIX);
        Check.write(x, 0, 0, 1, 2, 9);
        String was = Check.picture(x);
        int[][] calls = {
            {0, 1, -1, -1, 2}, {0, 0, 0, 1, 2}, {1, 0, -1, -1, 1}, {1, 2, 0, 1, 1},
            {0, 2, -1, -1, 4}, {0, 2, 0, Integer.MIN_VALUE, 4}, {0, 2, -1, 0, 3}, {0, 2, 5, 0, 3},
            {0, 2, 0, 5, 3}, {0, 2, 0, 9, 3}, {0, 2, 4, 1, 3}, {0, 2, 3, 2, 3},
            {0, 2, 1, Integer.MAX_VALUE, 3}, {0, 2, Integer.MAX_VALUE, Integer.MAX_VALUE, 3},
            {0, 2, Integer.MIN_VALUE, 1, 3},
        };
        for (int[] c : calls) {
            for (int what = 0; what < 2; what++) {
                int got = x.asked(1, c[0], c[1], c[2], c[3], what);
                CHECK.due("asked with fault " + c[4], got, -10 - c[4]);
                CHECK.due("fault()", x.fault(), c[4]);
            }
        }
        CHECK.due("all is as it was", Check.picture(x).equals(was) ? 1 : 0, 1);
    }

    private static void sent() {
        ThreeRefusals x = Check.valley(SIX);
        CHECK.due("she takes 5 herself", x.sent(0, 5), 0);
        CHECK.due("three of the least ahead of 4", x.sent(0, 4), 1 + 2 + 4);
        CHECK.due("not himself", x.sent(0, 0), 2 + 4 + 8);
        CHECK.due("not himself", x.sent(0, 1), 1 + 4 + 8);
        x.law(4);
        CHECK.due("four ahead", x.sent(0, 4), 1 + 2 + 4 + 8);
        CHECK.due("four ahead", x.sent(0, 0), 2 + 4 + 8 + 16);
        x.law(5);
        CHECK.due("5 would be taken ahead", x.sent(0, 4), Check.NONE);
        x.like(0, 5, 0, 1);
        CHECK.due("five ahead", x.sent(0, 4), 1 + 2 + 4 + 8 + 32);
        x.law(6);
        CHECK.due("six there are not", x.sent(0, 4), Check.NONE);
        x.law(2);
        CHECK.due("two ahead", x.sent(0, 0), 2 + 4);
        x.law(0);
        CHECK.due("she must at once", x.sent(0, 1), 0);
        x.law(1);
        x.like(0, 0, 0, 5);
        CHECK.due("0 would be taken ahead", x.sent(0, 1), 4);
    }

    private static void sentOfHeiress() {
        // Suitor 0 is refused only by her whose mind has risen, and his refusal comes first.
        ThreeRefusals x = Check.valley("y51;h32412;0;0;0;0;0");
        CHECK.due("taken at once", x.sent(0, 0), 0);
        CHECK.due("taken at once", x.sent(0, 2), 0);
        CHECK.due("0 and 2 would be taken ahead", x.sent(0, 1), Check.NONE);
        x.law(2);
        CHECK.due("0 would be taken, 3 and 4 not", x.sent(0, 1), 8 + 16);
        CHECK.due("1 and 4 ahead of 3", x.sent(0, 3), 2 + 16);
        Check.settle(x, "y51;h22322;0;0;0;0;0");
        CHECK.due("2 behind one refusal is refused", x.sent(0, 0), 2 + 4 + 8);
        CHECK.due("0 and 1 first", x.sent(0, 4), 1 + 2 + 4);
    }

    private static void sentRefused() {
        ThreeRefusals x = Check.valley(SIX);
        CHECK.due("no maid", x.sent(2, 0), Check.UNKNOWN);
        CHECK.due("no maid", x.sent(-1, 0), Check.UNKNOWN);
        CHECK.due("no suitor", x.sent(0, 6), Check.UNKNOWN);
        CHECK.due("no suitor", x.sent(0, -1), Check.UNKNOWN);
        CHECK.due("law 9", x.law(9), 3);
        CHECK.due("none", x.sent(0, 0), Check.NONE);
    }
}
