/** Promises 1 to 6: a new object, valley, likes, like, ofMaid, law. */
public final class ValleyTest {
    private static final Check CHECK = new Check();

    public static void main(String[] args) {
        newObject();
        takenTexts();
        firstFaults();
        valleyRefused();
        valleyFaults();
        valleyIsANewBeginning();
        valleyByLanes();
        likes();
        like();
        likeGoesThroughOffers();
        ofMaid();
        law();
        CHECK.end();
    }

    private static void newObject() {
        ThreeRefusals x = new ThreeRefusals();
        for (int what = 0; what < 5; what++) {
            CHECK.due("new many(" + what + ")", x.many(what), 0);
        }
        CHECK.due("new fault()", x.fault(), 0);
        CHECK.due("new trace()", x.trace(), 0);
        CHECK.due("new undo(0)", x.undo(0), 0);
        CHECK.due("new back(0)", x.back(0), 0);
        CHECK.due("new likes", x.likes(0, 0, 0), Check.UNKNOWN);
        CHECK.due("new like", x.like(0, 0, 0, 1), Check.UNKNOWN);
        CHECK.due("new ofMaid", x.ofMaid(0, 0), Check.UNKNOWN);
        CHECK.due("new offer", x.offer(0, 0), Check.UNKNOWN);
        CHECK.due("new comes", x.comes(0), Check.UNKNOWN);
        CHECK.due("new pairs", x.pairs(), Check.LOST);
        CHECK.due("new asked", x.asked(0, 0, 0, 0, 1, 0), Check.UNKNOWN);
        CHECK.due("new sent", x.sent(0, 0), Check.UNKNOWN);
        CHECK.due("new firm(-1)", x.firm(-1), Check.STATE);
        CHECK.due("new firm(0)", x.firm(0), Check.UNKNOWN);
        CHECK.due("new firm(-2)", x.firm(-2), Check.UNKNOWN);
        CHECK.due("new brought", x.brought(), Check.STATE);
        CHECK.due("new worth", x.worth(0, 1, 0, 0), Check.LOST);
        CHECK.due("new reading", x.reading(0, 0, 0, true), Check.UNKNOWN);
        CHECK.due("new learnt", x.learnt(0, 0, 0), Check.UNKNOWN);
        CHECK.due("new kinds", x.kinds(0), Check.UNKNOWN);
        CHECK.due("new tell", x.tell(0), Check.UNKNOWN);
        CHECK.due("new greet", x.greet(0), Check.UNKNOWN);
        CHECK.due("new as", x.as(0, 0), Check.UNKNOWN);
        for (int k = 0; k < 4; k++) {
            CHECK.due("new put", x.put(k, 0, 1), Check.NULL);
            CHECK.due("new lose", x.lose(k), 0);
        }
    }

    private static void takenTexts() {
        ThreeRefusals x = new ThreeRefusals();
        CHECK.due("least text", Check.settle(x, "y11;p7;4"), 1);
        CHECK.due("suitors", x.many(0), 1);
        CHECK.due("maids", x.many(1), 1);
        CHECK.due("law", x.many(4), 3);
        CHECK.due("kind", x.ofMaid(0, 0), 1);
        CHECK.due("hers", x.likes(0, 0, 0), 7);
        CHECK.due("his", x.likes(0, 0, 1), 4);
        String greatest = "y64;m012345;p678901;h234567;m890123;4567;8901;2345;6789;0123;4567";
        CHECK.due("greatest text", Check.settle(x, greatest), 4);
        CHECK.due("suitors", x.many(0), 6);
        CHECK.due("maids", x.many(1), 4);
        for (int maid = 0; maid < 4; maid++) {
            CHECK.due("kind", x.ofMaid(maid, 0), maid % 3);
            for (int suitor = 0; suitor < 6; suitor++) {
                CHECK.due("hers", x.likes(maid, suitor, 0), (6 * maid + suitor) % 10);
                CHECK.due("his", x.likes(maid, suitor, 1), (4 + 4 * suitor + maid) % 10);
            }
        }
    }

    private static void firstFaults() {
        text("", 0);
        text("x11;p7;4", 0);
        text("Y11;p7;4", 0);
        text("y", 1);
        text("y0", 1);
        text("y71;p7;4", 1);
        text("ym", 1);
        text("y1", 2);
        text("y10;p7;4", 2);
        text("y15;p7;4", 2);
        text("y65", 2);
        text("y11", 3);
        text("y11p7;4", 3);
        text("y11:p7;4", 3);
        text("y11;", 4);
        text("y11;;7;4", 4);
        text("y11;77;4", 4);
        text("y11;M7;4", 4);
        text("y11;p;4", 5);
        text("y11;p/;4", 5);
        text("y11;p:;4", 5);
        text("y11;p7", 6);
        text("y11;p77;4", 6);
        text("y11;p7;", 7);
        text("y11;p7;p4", 7);
        text("y11;p7;;", 7);
        text("y11;p7;44", 8);
        text("y11;p7;4;", 8);
        text("y11;p7;4xyz", 8);
        text("y21;m12;3", 9);
        text("y21;m12;3;4;5", 11);
        text("y12;m1;p2;34", 12 + 100);
        text("y12;m1;2", 7);
        text("y12;m1;p2;3", 11);
        text("y12;m1;p2;3;4", 11);
        String longest = "y64;m012345;p678901;h234567;m890123;4567;8901;2345;6789;0123;4567";
        for (int n = 0; n < longest.length(); n++) {
            text(longest.substring(0, n), n);
            text(longest.substring(0, n) + "\n" + longest.substring(n + 1), n);
        }
        text(longest + "0".repeat(100 - longest.length()), longest.length());
    }

    /** A fault of 100 or more: none; how many maids (the text tells it). */
    private static void text(String text, int fault) {
        ThreeRefusals x = Check.valley("y11;p7;4");
        int want = fault < 100 ? -100 - fault : text.charAt(2) - '0';
        CHECK.due("text " + text, Check.settle(x, text), want);
        CHECK.due("fault() behind text " + text, x.fault(), 0);
    }

    private static void valleyRefused() {
        ThreeRefusals x = Check.valley(Check.TWO);
        x.offer(0, 0);
        x.reading(1, 2, 3, true);
        x.tell(0);
        String was = Check.picture(x);
        int[][] calls = {
            {-1, 9, -1, -1, Check.UNKNOWN}, {4, 2, 0, 22, Check.UNKNOWN},
            {3, -1, -1, -1, Check.OUTSIDE}, {3, 3, 0, 22, Check.OUTSIDE},
            {2, 3, 0, 22, Check.OUTSIDE}, {3, 2, 0, 21, -121}, {3, 2, 22, 0, -100},
        };
        for (int[] c : calls) {
            x.put(3, -1, 0);
            CHECK.due("a fault ahead", x.fault(), 3);
            CHECK.due("valley refused", x.valley(c[0], c[1], c[2], c[3]), c[4]);
            CHECK.due("fault() behind it", x.fault(), 0);
        }
        CHECK.due("all is as it was", Check.picture(x).equals(was) ? 1 : 0, 1);
    }

    private static void valleyFaults() {
        ThreeRefusals x = Check.valley(Check.TWO);
        String was = Check.picture(x);
        faultOfValley(x, x.valley(3, 1, 0, 22), 2);
        faultOfValley(x, x.valley(3, 0, -1, -1), 2);
        faultOfValley(x, x.valley(2, 0, -1, -1), 1);
        faultOfValley(x, x.valley(2, 2, 0, 0), 1);
        faultOfValley(x, x.valley(3, 2, -1, -1), 4);
        faultOfValley(x, x.valley(3, 2, 0, Integer.MIN_VALUE), 4);
        faultOfValley(x, x.valley(3, 2, -1, 0), 3);
        faultOfValley(x, x.valley(3, 2, 23, 0), 3);
        faultOfValley(x, x.valley(3, 2, 0, 23), 3);
        faultOfValley(x, x.valley(3, 2, 1, 22), 3);
        faultOfValley(x, x.valley(3, 2, 22, 1), 3);
        faultOfValley(x, x.valley(3, 2, 1, Integer.MAX_VALUE), 3);
        faultOfValley(x, x.valley(3, 2, Integer.MAX_VALUE, 1), 3);
        faultOfValley(x, x.valley(3, 2, Integer.MIN_VALUE, Integer.MAX_VALUE), 3);
        CHECK.due("all is as it was", Check.picture(x).equals(was) ? 1 : 0, 1);
        CHECK.due("a fault ahead", x.fault(), 3);
        CHECK.due("taken", x.valley(3, 2, 0, 22), 2);
        CHECK.due("fault() behind a taken text", x.fault(), 0);
    }

    private static void faultOfValley(ThreeRefusals x, int got, int fault) {
        CHECK.due("valley() with fault " + fault, got, -10 - fault);
        CHECK.due("fault() behind it", x.fault(), fault);
    }

    private static void valleyIsANewBeginning() {
        ThreeRefusals x = Check.valley(Check.THREE);
        x.law(1);
        x.offer(0, 0);
        x.offer(3, 1);
        x.offer(1, 1);
        x.reading(0, 1, 0, true);
        x.tell(2);
        int trace = x.trace();
        Check.write(x, 1, 5, 6);
        CHECK.due("a new text", Check.settle(x, Check.TWO), 2);
        CHECK.due("suitors", x.many(0), 3);
        CHECK.due("maids", x.many(1), 2);
        CHECK.due("no offers", x.many(2), 0);
        CHECK.due("no readings", x.many(3), 0);
        CHECK.due("the law is 3", x.many(4), 3);
        CHECK.due("comes(0)", x.comes(0), Check.UNKNOWN);
        CHECK.due("kinds", x.kinds(0), 7);
        CHECK.due("nobody wed", x.pairs(), 999);
        CHECK.due("no husband", x.ofMaid(1, 3), Check.NONE);
        CHECK.due("no refusals", x.ofMaid(0, 2), 0);
        CHECK.due("no third maid", x.likes(2, 0, 0), Check.UNKNOWN);
        CHECK.due("no fourth suitor", x.likes(0, 3, 0), Check.UNKNOWN);
        CHECK.due("trace stays", x.trace(), trace);
        CHECK.due("sheets stay", x.cell(1, 1, 2), 6);
        CHECK.due("the text's own, too", x.cell(3, 0, 2), 'y');
    }

    private static void valleyByLanes() {
        for (int lane = 0; lane < 3; lane++) {
            ThreeRefusals x = new ThreeRefusals();
            x.sheet(lane, lane, 100);
            String text = "..y11;h9;0";
            for (int i = 0; i < text.length(); i++) {
                // 65536 more is cut by bytes and by shorts.
                x.put(lane, 90 + i, text.charAt(i) + (lane < 2 ? 65536 : 0));
            }
            CHECK.due("valley of lane " + lane, x.valley(lane, lane, 92, 8), 1);
            CHECK.due("its kind", x.ofMaid(0, 0), 2);
            CHECK.due("taken as another lane", x.valley(lane, (lane + 1) % 3, 92, 8), Check.CAST);
        }
        ThreeRefusals x = new ThreeRefusals();
        Check.write(x, 0, 'y' + 65536, '1', '1', ';', 'h', '9', ';', '0');
        CHECK.due("ints are not cut", x.valley(0, 2, 0, 8), -100);
    }

    private static void likes() {
        ThreeRefusals x = Check.valley(Check.THREE);
        CHECK.due("she him", x.likes(1, 2, 0), 3);
        CHECK.due("he her", x.likes(1, 2, 1), 6);
        CHECK.due("the last", x.likes(2, 3, 0), 2);
        CHECK.due("the last", x.likes(2, 3, 1), 8);
        CHECK.due("no maid", x.likes(3, 0, 5), Check.UNKNOWN);
        CHECK.due("no maid", x.likes(-1, 0, 0), Check.UNKNOWN);
        CHECK.due("no suitor", x.likes(0, 4, 5), Check.UNKNOWN);
        CHECK.due("no suitor", x.likes(0, -1, 0), Check.UNKNOWN);
        CHECK.due("what 2", x.likes(0, 0, 2), Check.OUTSIDE);
        CHECK.due("what -1", x.likes(0, 0, -1), Check.OUTSIDE);
    }

    private static void like() {
        ThreeRefusals x = Check.valley(Check.THREE);
        CHECK.due("hers", x.like(1, 2, 0, 9), 3);
        CHECK.due("hers now", x.likes(1, 2, 0), 9);
        CHECK.due("his is as it was", x.likes(1, 2, 1), 6);
        CHECK.due("his", x.like(1, 2, 1, 0), 6);
        CHECK.due("his now", x.likes(1, 2, 1), 0);
        CHECK.due("hers as before", x.like(1, 2, 0, 9), 9);
        CHECK.due("of another", x.likes(2, 1, 0), 6);
        String was = Check.picture(x);
        CHECK.due("no maid", x.like(3, 0, 5, 10), Check.UNKNOWN);
        CHECK.due("no suitor", x.like(0, 4, 0, 0), Check.UNKNOWN);
        CHECK.due("no suitor", x.like(0, -1, 0, 0), Check.UNKNOWN);
        CHECK.due("no maid", x.like(-1, 0, 0, 0), Check.UNKNOWN);
        CHECK.due("what 2", x.like(0, 0, 2, 0), Check.OUTSIDE);
        CHECK.due("what -1", x.like(0, 0, -1, 0), Check.OUTSIDE);
        CHECK.due("10", x.like(0, 0, 0, 10), Check.OUTSIDE);
        CHECK.due("-1", x.like(0, 0, 1, -1), Check.OUTSIDE);
        CHECK.due("all is as it was", Check.picture(x).equals(was) ? 1 : 0, 1);
    }

    private static void likeGoesThroughOffers() {
        ThreeRefusals x = Check.valley("y31;m449;1;2;3");
        x.offer(0, 0);
        x.offer(1, 0);
        x.offer(2, 0);
        CHECK.due("the third is taken", x.pairs(), 99 + 0 * 100);
        CHECK.due("hers of the first", x.like(0, 0, 0, 5), 4);
        CHECK.due("now she takes him", x.comes(0), 1);
        CHECK.due("what comes behind is past", x.comes(1), 0);
        CHECK.due("what comes behind is past", x.comes(2), 0);
        CHECK.due("pairs", x.pairs(), 990);
        CHECK.due("no refusals", x.ofMaid(0, 2), 0);
        CHECK.due("back to 4", x.like(0, 0, 0, 4), 5);
        CHECK.due("refused again", x.comes(0), 3);
        CHECK.due("two refusals", x.ofMaid(0, 2), 2);
        CHECK.due("his liking", x.like(0, 0, 1, 9), 1);
        CHECK.due("changes no offer", x.comes(0), 3);
    }

    private static void ofMaid() {
        ThreeRefusals x = Check.valley(Check.THREE);
        for (int maid = 0; maid < 3; maid++) {
            CHECK.due("kind", x.ofMaid(maid, 0), (maid + 2) % 3);
            CHECK.due("mind", x.ofMaid(maid, 1), new int[] {3, 5, 7}[maid]);
            CHECK.due("refused", x.ofMaid(maid, 2), 0);
            CHECK.due("wed", x.ofMaid(maid, 3), Check.NONE);
        }
        x.offer(0, 0);
        x.offer(2, 1);
        x.offer(3, 2);
        x.offer(2, 2);
        CHECK.due("the heiress's mind rises", x.ofMaid(0, 1), 4);
        CHECK.due("the maid's stays", x.ofMaid(1, 1), 5);
        CHECK.due("the proud one's stays", x.ofMaid(2, 1), 7);
        CHECK.due("how often", x.ofMaid(2, 2), 2);
        x.offer(3, 0);
        CHECK.due("wed", x.ofMaid(0, 3), 3);
        CHECK.due("refused as before", x.ofMaid(0, 2), 1);
        CHECK.due("her mind as before", x.ofMaid(0, 1), 4);
        x.offer(0, 1);
        CHECK.due("wed to suitor 0", x.ofMaid(1, 3), 0);
        CHECK.due("no maid", x.ofMaid(3, 9), Check.UNKNOWN);
        CHECK.due("no maid", x.ofMaid(-1, 0), Check.UNKNOWN);
        CHECK.due("what 4", x.ofMaid(0, 4), Check.OUTSIDE);
        CHECK.due("what -1", x.ofMaid(0, -1), Check.OUTSIDE);
    }

    private static void law() {
        ThreeRefusals x = new ThreeRefusals();
        CHECK.due("no valley", x.law(3), Check.STATE);
        CHECK.due("no valley, outside", x.law(10), Check.OUTSIDE);
        CHECK.due("no valley, outside", x.law(-1), Check.OUTSIDE);
        CHECK.due("no law", x.many(4), 0);
        Check.settle(x, "y61;m432103;1;2;3;4;5;6");
        for (int suitor = 0; suitor < 6; suitor++) {
            x.offer(suitor, 0);
        }
        for (int law = 0; law < 10; law++) {
            CHECK.due("law(" + law + ")", x.law(law), law == 0 ? 3 : law - 1);
            CHECK.due("the law", x.many(4), law);
            for (int k = 0; k < 6; k++) {
                CHECK.due("comes(" + k + ") by " + law, x.comes(k), k < law ? 3 : k == law ? 2 : 0);
            }
            CHECK.due("refused by " + law, x.ofMaid(0, 2), Math.min(law, 6));
            CHECK.due("wed by " + law, x.ofMaid(0, 3), law < 6 ? law : Check.NONE);
        }
        CHECK.due("outside", x.law(10), Check.OUTSIDE);
        CHECK.due("outside", x.law(-1), Check.OUTSIDE);
        CHECK.due("the law stays", x.law(9), 9);
    }
}
