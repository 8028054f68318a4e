/** Promises 2 to 6 and Terms 1: texts, likings, minds and laws at their edges. */
public final class EdgesOfValleyTest {
    private static final Check CHECK = new Check();
    private static final Edge EDGE = new Edge(CHECK);
    private static final String GREATEST =
        "y64;m012345;p678901;h234567;m890123;4567;8901;2345;6789;0123;4567";
    private static final String[] TEXTS = {
        "y11;p7;4", "y11;h0;9", Check.TWO, Check.THREE, GREATEST,
        "y61;m999999;0;0;0;0;0;0", "y14;m1;p2;h3;p4;1234",
    };

    public static void main(String[] args) {
        suitors();
        maids();
        likingsOfTexts();
        letters();
        otherCodes();
        endsTooSoon();
        goesOnBehindTheEnd();
        firstOfSeveralFaults();
        codesThatAreNoSigns();
        notTaken();
        takenAnew();
        anywhereOnASheet();
        emptyRowIsNoText();
        valleyUnknown();
        valleyOutside();
        valleyCast();
        valleyNull();
        valleySize();
        valleyIndex();
        valleyInOrder();
        likesRefused();
        likeRefused();
        likeOfEnds();
        likeFromTheFirstOn();
        ofMaidRefused();
        minds();
        noLessThanHerMind();
        mindsAboveAllLikings();
        lawRefused();
        lawOfEnds();
        CHECK.end();
    }

    // ---- Terms 1

    /** What a text comes to: how many maids, or -100 less its first fault. */
    private static void text(int want, String text) {
        row(want, Check.codes(text), text);
    }

    private static void row(int want, int[] codes, String told) {
        ThreeRefusals x = new ThreeRefusals();
        Check.write(x, 0, codes);
        x.put(1, 0, 0);
        CHECK.due("a fault ahead", x.fault(), 1);
        CHECK.due("text " + told, x.valley(0, 2, 0, codes.length), want);
        CHECK.due("fault() behind text " + told, x.fault(), 0);
        CHECK.due("maids behind text " + told, x.many(1), Math.max(0, want));
        CHECK.due("law behind text " + told, x.many(4), want > 0 ? 3 : 0);
    }

    private static void suitors() {
        CHECK.says("Terms 1: a digit 1 .. 6 (SUITORS)");
        text(-101, "y01;m;");
        text(1, "y11;m0;0");
        text(1, "y61;m000000;0;0;0;0;0;0");
        text(-101, "y71;m0000000;0;0;0;0;0;0;0");
        for (int code = 0; code < 128; code++) {
            text(code >= '1' && code <= '6' ? -102 : -101, "y" + (char) code);
        }
    }

    private static void maids() {
        CHECK.says("Terms 1: a digit 1 .. 4 (MAIDS)");
        text(-102, "y10;");
        text(1, "y11;m0;0");
        text(4, "y14;m0;m0;m0;m0;0000");
        text(-102, "y15;m0;m0;m0;m0;m0;00000");
        for (int code = 0; code < 128; code++) {
            text(code >= '1' && code <= '4' ? -103 : -102, "y6" + (char) code);
        }
    }

    /** A place, with every other code there: which are taken. */
    private static void place(String text, int place, String taken) {
        for (int code = 0; code < 128; code++) {
            int[] codes = Check.codes(text);
            codes[place] = code;
            boolean fits = taken.indexOf(code) >= 0;
            row(fits ? text.charAt(2) - '0' : -100 - place, codes, text + " with " + code + " at " + place);
        }
    }

    private static void likingsOfTexts() {
        CHECK.says("Terms 1: for each SUITOR a digit 0 .. 9, for each MAID a digit 0 .. 9");
        String text = "y22;m50;h95;36;74";
        for (int at : new int[] {5, 6, 9, 10, 12, 13, 15, 16}) {
            place(text, at, "0123456789");
        }
        ThreeRefusals x = Check.valley("y22;m09;h90;09;90");
        for (int maid = 0; maid < 2; maid++) {
            for (int suitor = 0; suitor < 2; suitor++) {
                CHECK.due("hers", x.likes(maid, suitor, 0), maid == suitor ? 0 : 9);
                CHECK.due("his", x.likes(maid, suitor, 1), maid == suitor ? 0 : 9);
            }
        }
    }

    private static void letters() {
        CHECK.says("Terms 1: MAID (m), PROUD (p), HEIRESS (h)");
        place("y22;m50;h95;36;74", 4, "mph");
        place("y22;m50;h95;36;74", 8, "mph");
        String[] texts = {"y11;m5;5", "y11;p5;5", "y11;h5;5"};
        for (int kind = 0; kind < 3; kind++) {
            CHECK.due("the kind of " + texts[kind], Check.valley(texts[kind]).ofMaid(0, 0), kind);
        }
    }

    private static void otherCodes() {
        CHECK.says("Terms 1: y, then for each MAID ; .. then for each SUITOR ;");
        String text = "y22;m50;h95;36;74";
        place(text, 0, "y");
        for (int at : new int[] {3, 7, 11, 14}) {
            place(text, at, ";");
        }
    }

    private static void endsTooSoon() {
        CHECK.says("FIRST FAULT: how many codes there are, if it just ends too soon");
        for (String text : TEXTS) {
            for (int n = 0; n < text.length(); n++) {
                text(-100 - n, text.substring(0, n));
            }
            text(text.charAt(2) - '0', text);
        }
    }

    private static void goesOnBehindTheEnd() {
        CHECK.says("FIRST FAULT: codes behind the end of a TEXT");
        for (String text : TEXTS) {
            for (String more : new String[] {";", "0", "9", "y", "m", " ", ";0", "00", text}) {
                if (text.length() + more.length() <= 100) {
                    text(-100 - text.length(), text + more);
                }
            }
            text(-100 - text.length(), text + "0".repeat(100 - text.length()));
        }
    }

    private static void firstOfSeveralFaults() {
        CHECK.says("FIRST FAULT: the place of the first code with which no TEXT goes on");
        text(-100, "xxx");
        text(-101, "yy");
        text(-101, "y75:");
        text(-102, "y1");
        text(-102, "y17");
        text(-104, "y11;x7;x");
        text(-105, "y11;px;x");
        text(-106, "y11;p77;4;");
        text(-107, "y11;p7;x");
        CHECK.says("FIRST FAULT: a code that does not fit comes ahead of an end too soon");
        for (int n = 1; n < GREATEST.length(); n++) {
            text(-100 - (n - 1), GREATEST.substring(0, n - 1) + "?");
            text(-100 - n / 2, GREATEST.substring(0, n / 2) + "?" + GREATEST.substring(n / 2 + 1, n + 1));
        }
    }

    private static void codesThatAreNoSigns() {
        CHECK.says("FIRST FAULT: a code far off, at every place");
        int[] far = {Integer.MIN_VALUE, Integer.MAX_VALUE, -1, 128, 255};
        for (int place = 0; place < Check.TWO.length(); place++) {
            for (int code : far) {
                int[] codes = Check.codes(Check.TWO);
                codes[place] = code;
                row(-100 - place, codes, Check.TWO + " with " + code + " at " + place);
                codes[place] = Check.TWO.charAt(place) + 65536;
                row(-100 - place, codes, Check.TWO + " with 65536 more at " + place);
                codes[place] = Check.TWO.charAt(place) - 256;
                row(-100 - place, codes, Check.TWO + " with 256 less at " + place);
            }
        }
        for (int code : far) {
            row(-101, new int[] {'y', code}, "y, " + code);
            row(-102, new int[] {'y', '6', code}, "y6, " + code);
        }
    }

    private static void notTaken() {
        CHECK.says("Promise 2: a text that is not taken changes nothing (but fault())");
        for (Edge.Scene scene : new Edge.Scene[] {Edge.LIVED, Edge.FULL}) {
            EDGE.refused(scene, -100, "valley", 0, 0, 0, 0);
            EDGE.refused(scene, -100, "valley", 0, 0, 8, 0);
            EDGE.refused(scene, -100, "valley", 0, 0, 1, 7);
            EDGE.refused(scene, -101, "valley", 0, 0, 0, 1);
            EDGE.refused(scene, -107, "valley", 0, 0, 0, 7);
            EDGE.refused(scene, -100, "valley", 1, 1, 0, 3);
        }
        EDGE.refused(x -> {
            Edge.LIVED.play(x);
            Check.write(x, 3, 0, Check.codes("y11;p7;44"));
        }, -108, "valley", 3, 0, 0, 9);
    }

    private static void takenAnew() {
        CHECK.says("Terms 1: a TEXT that is taken makes all anew, but for SHEETS and TRACE");
        for (Edge.Scene scene : new Edge.Scene[] {Edge.LIVED, Edge.FULL}) {
            ThreeRefusals x = new ThreeRefusals();
            scene.play(x);
            x.law(0);
            x.like(0, 0, 0, 9);
            x.like(1, 2, 1, 9);
            Check.settle(x, Check.TWO);
            CHECK.due("the LAW is 3", x.many(4), 3);
            CHECK.due("no OFFERS", x.many(2), 0);
            CHECK.due("no OFFERS", x.comes(0), Check.UNKNOWN);
            CHECK.due("no READINGS", x.many(3), 0);
            CHECK.due("nobody wed", x.pairs(), 999);
            ThreeRefusals twin = new ThreeRefusals();
            Edge.SHEETS.play(twin);
            Check.settle(twin, Check.TWO);
            twin.tell(0);
            CHECK.same("all else is as the text tells it", Check.picture(x), Check.picture(twin));
        }
        smallerAnew();
    }

    private static void smallerAnew() {
        ThreeRefusals x = Check.valley(GREATEST);
        x.offer(5, 3);
        CHECK.due("a smaller one", Check.settle(x, "y11;p7;4"), 1);
        CHECK.due("no second SUITOR", x.likes(0, 1, 0), Check.UNKNOWN);
        CHECK.due("no second MAID", x.likes(1, 0, 0), Check.UNKNOWN);
        CHECK.due("SUITORS", x.many(0), 1);
        CHECK.due("MAIDS", x.many(1), 1);
        CHECK.due("the greatest again", Check.settle(x, GREATEST), 4);
        CHECK.due("SUITORS", x.many(0), 6);
        CHECK.due("his liking", x.likes(3, 5, 1), 7);
        CHECK.due("nobody wed", x.pairs(), 999999);
    }

    private static void anywhereOnASheet() {
        CHECK.says("Promise 2: a TEXT of n cells of a SHEET from i on");
        for (int lane = 0; lane < 3; lane++) {
            ThreeRefusals x = new ThreeRefusals();
            int begin = 100 - GREATEST.length();
            x.sheet(2, lane, 100);
            for (int i = 0; i < GREATEST.length(); i++) {
                x.put(2, begin + i, GREATEST.charAt(i));
            }
            CHECK.due("to the end of 100", x.valley(2, lane, begin, GREATEST.length()), 4);
            CHECK.due("the last liking", x.likes(3, 5, 1), 7);
            CHECK.due("one cell ahead", x.valley(2, lane, begin - 1, GREATEST.length()), -100);
            CHECK.due("one cell behind", x.valley(2, lane, begin + 1, GREATEST.length() - 1), -100);
            CHECK.due("one cell less", x.valley(2, lane, begin, GREATEST.length() - 1), -164);
            CHECK.due("one cell more", x.valley(2, lane, begin, GREATEST.length() + 1), Check.INDEX);
            CHECK.due("all 100", x.valley(2, lane, 0, 100), -100);
        }
    }

    private static void emptyRowIsNoText() {
        CHECK.says("Terms 6: rows of 0 .. 100 numbers, taken as a TEXT");
        for (int lane = 0; lane < 3; lane++) {
            int own = lane;
            Edge.Scene none = x -> x.sheet(1, own, 0);
            Edge.Scene most = x -> x.sheet(1, own, 100);
            EDGE.refused(none, -100, "valley", 1, lane, 0, 0);
            EDGE.refused(none, Check.INDEX, "valley", 1, lane, 1, 0);
            EDGE.refused(none, Check.INDEX, "valley", 1, lane, -1, 0);
            EDGE.refused(none, Check.INDEX, "valley", 1, lane, 0, 1);
            EDGE.refused(none, Check.SIZE, "valley", 1, lane, 0, -1);
            EDGE.refused(most, -100, "valley", 1, lane, 0, 100);
            EDGE.refused(most, -100, "valley", 1, lane, 100, 0);
            EDGE.refused(most, -100, "valley", 1, lane, 99, 1);
            EDGE.refused(most, Check.INDEX, "valley", 1, lane, 0, 101);
            EDGE.refused(most, Check.INDEX, "valley", 1, lane, 101, 0);
            EDGE.refused(most, Check.INDEX, "valley", 1, lane, 99, 2);
        }
    }

    // ---- Promise 2

    private static void valleyUnknown() {
        CHECK.says("Promise 2: UNKNOWN");
        EDGE.refused(Edge.LIVED, Check.UNKNOWN, "valley", 4, 0, 0, 8);
        EDGE.refused(Edge.LIVED, Check.UNKNOWN, "valley", -1, 0, 0, 8);
        EDGE.taken(Edge.LIVED, 1, "valley", 0, 0, 0, 8);
        for (int k = 0; k < 4; k++) {
            ThreeRefusals x = new ThreeRefusals();
            Check.write(x, k, 1, Check.codes("y11;p7;4"));
            CHECK.due("a text of sheet " + k, x.valley(k, 1, 0, 8), 1);
        }
    }

    private static void valleyOutside() {
        CHECK.says("Promise 2: OUTSIDE: lane");
        for (int k = 0; k < 4; k++) {
            EDGE.refused(Edge.LIVED, Check.OUTSIDE, "valley", k, 3, 0, 3);
            EDGE.refused(Edge.LIVED, Check.OUTSIDE, "valley", k, -1, 0, 3);
        }
    }

    private static void valleyCast() {
        CHECK.says("Promise 2: CAST");
        int[] byTheirOwn = {-101, -100, -100};
        for (int k = 0; k < 3; k++) {
            for (int lane = 0; lane < 3; lane++) {
                EDGE.refused(Edge.LIVED, lane == k ? byTheirOwn[k] : Check.CAST, "valley", k, lane, 0, 1);
            }
        }
    }

    private static void valleyNull() {
        CHECK.says("Promise 2: CAST (nothing is no CAST); NULL");
        for (int lane = 0; lane < 3; lane++) {
            EDGE.refused(Edge.LIVED, Check.NULL, "valley", 3, lane, 0, 1);
            EDGE.refused(Edge.LIVED, Check.NULL, "valley", 3, lane, 0, 0);
        }
    }

    private static void valleySize() {
        CHECK.says("Promise 2: SIZE: n below 0");
        EDGE.refused(Edge.LIVED, Check.SIZE, "valley", 0, 0, 0, -1);
        EDGE.refused(Edge.LIVED, Check.SIZE, "valley", 0, 0, 8, -1);
        EDGE.refused(Edge.LIVED, Check.SIZE, "valley", 0, 0, 1, -1);
    }

    private static void valleyIndex() {
        CHECK.says("INDEX: of cells from i on also where i is not 0 .. how many there are");
        EDGE.refused(Edge.LIVED, Check.INDEX, "valley", 0, 0, -1, 0);
        EDGE.refused(Edge.LIVED, Check.INDEX, "valley", 0, 0, 9, 0);
        EDGE.refused(Edge.LIVED, -100, "valley", 0, 0, 8, 0);
        CHECK.says("Promise 2: INDEX");
        EDGE.refused(Edge.LIVED, Check.INDEX, "valley", 0, 0, -1, 8);
        EDGE.refused(Edge.LIVED, Check.INDEX, "valley", 0, 0, -1, 1);
        EDGE.refused(Edge.LIVED, Check.INDEX, "valley", 0, 0, 0, 9);
        EDGE.refused(Edge.LIVED, Check.INDEX, "valley", 0, 0, 1, 8);
        EDGE.refused(Edge.LIVED, Check.INDEX, "valley", 0, 0, 8, 1);
    }

    private static void valleyInOrder() {
        CHECK.says("Promise 2: UNKNOWN; OUTSIDE; CAST; NULL; SIZE; INDEX; -100 less it");
        EDGE.refused(Edge.LIVED, Check.UNKNOWN, "valley", 4, 3, -1, -1);
        EDGE.refused(Edge.LIVED, Check.UNKNOWN, "valley", -1, -1, 9, -1);
        EDGE.refused(Edge.LIVED, Check.OUTSIDE, "valley", 0, 3, -1, -1);
        EDGE.refused(Edge.LIVED, Check.OUTSIDE, "valley", 3, -1, -1, -1);
        EDGE.refused(Edge.LIVED, Check.CAST, "valley", 0, 1, -1, -1);
        EDGE.refused(Edge.LIVED, Check.CAST, "valley", 1, 0, 0, 4);
        EDGE.refused(Edge.LIVED, Check.NULL, "valley", 3, 1, -1, -1);
        EDGE.refused(Edge.LIVED, Check.NULL, "valley", 3, 2, 1, 1);
        EDGE.refused(Edge.LIVED, Check.SIZE, "valley", 0, 0, -1, -1);
        EDGE.refused(Edge.LIVED, Check.SIZE, "valley", 0, 0, 9, -1);
        EDGE.refused(Edge.LIVED, Check.INDEX, "valley", 1, 1, 0, 4);
        EDGE.refused(Edge.LIVED, -100, "valley", 1, 1, 0, 3);
    }

    // ---- Promises 3 and 4

    private static void likesRefused() {
        CHECK.says("Promise 3: UNKNOWN");
        EDGE.refused(Edge.LIVED, Check.UNKNOWN, "likes", 2, 0, 0);
        EDGE.refused(Edge.LIVED, Check.UNKNOWN, "likes", -1, 0, 1);
        EDGE.refused(Edge.LIVED, Check.UNKNOWN, "likes", 0, 3, 0);
        EDGE.refused(Edge.LIVED, Check.UNKNOWN, "likes", 1, -1, 1);
        CHECK.says("Promise 3: OUTSIDE");
        EDGE.refused(Edge.LIVED, Check.OUTSIDE, "likes", 0, 0, 2);
        EDGE.refused(Edge.LIVED, Check.OUTSIDE, "likes", 1, 2, -1);
        CHECK.says("Promise 3: UNKNOWN; OUTSIDE, in this order");
        EDGE.refused(Edge.LIVED, Check.UNKNOWN, "likes", 2, 0, 2);
        EDGE.refused(Edge.LIVED, Check.UNKNOWN, "likes", 0, 3, -1);
        EDGE.tells(Edge.LIVED, 2, "likes", 0, 0, 0);
        EDGE.tells(Edge.LIVED, 6, "likes", 1, 2, 1);
    }

    private static void likeRefused() {
        CHECK.says("Promise 4: UNKNOWN");
        EDGE.refused(Edge.LIVED, Check.UNKNOWN, "like", 2, 0, 0, 5);
        EDGE.refused(Edge.LIVED, Check.UNKNOWN, "like", -1, 0, 0, 5);
        EDGE.refused(Edge.LIVED, Check.UNKNOWN, "like", 0, 3, 1, 5);
        EDGE.refused(Edge.LIVED, Check.UNKNOWN, "like", 0, -1, 1, 5);
        CHECK.says("Promise 4: OUTSIDE");
        EDGE.refused(Edge.LIVED, Check.OUTSIDE, "like", 0, 0, 2, 5);
        EDGE.refused(Edge.LIVED, Check.OUTSIDE, "like", 0, 0, -1, 5);
        EDGE.refused(Edge.LIVED, Check.OUTSIDE, "like", 0, 0, 0, 10);
        EDGE.refused(Edge.LIVED, Check.OUTSIDE, "like", 0, 0, 0, -1);
        EDGE.refused(Edge.LIVED, Check.OUTSIDE, "like", 0, 0, 1, 10);
        EDGE.refused(Edge.LIVED, Check.OUTSIDE, "like", 0, 0, 1, -1);
        CHECK.says("Promise 4: UNKNOWN; OUTSIDE, in this order");
        EDGE.refused(Edge.LIVED, Check.UNKNOWN, "like", 2, 0, 2, 10);
        EDGE.refused(Edge.LIVED, Check.UNKNOWN, "like", 0, 3, 0, -1);
        EDGE.refused(Edge.LIVED, Check.UNKNOWN, "like", 0, -1, -1, 0);
    }

    private static void likeOfEnds() {
        CHECK.says("Promise 4: a LIKING becomes v (0 .. 9): what it was");
        for (int what = 0; what < 2; what++) {
            ThreeRefusals x = Check.valley("y64;m555555;p555555;h555555;m555555;"
                + "5555;5555;5555;5555;5555;5555");
            for (int maid = 0; maid < 4; maid += 3) {
                for (int suitor = 0; suitor < 6; suitor += 5) {
                    CHECK.due("to 0", x.like(maid, suitor, what, 0), 5);
                    CHECK.due("now", x.likes(maid, suitor, what), 0);
                    CHECK.due("to 9", x.like(maid, suitor, what, 9), 0);
                    CHECK.due("now", x.likes(maid, suitor, what), 9);
                    CHECK.due("the other's", x.likes(maid, suitor, 1 - what), 5);
                    CHECK.due("back to 5", x.like(maid, suitor, what, 5), 9);
                }
            }
        }
    }

    private static void likeFromTheFirstOn() {
        CHECK.says("Promise 4: OFFERS are gone through by it from the first on");
        ThreeRefusals x = Check.valley("y31;h399;0;0;0");
        x.offer(0, 0);
        x.offer(1, 0);
        CHECK.due("3 is no less than 3", x.comes(0), 1);
        CHECK.due("she is wed", x.comes(1), 0);
        x.like(0, 0, 0, 2);
        CHECK.due("2 is less", x.comes(0), 3);
        CHECK.due("so the next one's is no more past", x.comes(1), 1);
        CHECK.due("whom she wed", x.ofMaid(0, 3), 1);
        x.like(0, 0, 1, 9);
        CHECK.due("his liking changes no day", x.comes(0), 3);
    }

    // ---- Promise 5

    private static void ofMaidRefused() {
        CHECK.says("Promise 5: UNKNOWN");
        EDGE.refused(Edge.LIVED, Check.UNKNOWN, "ofMaid", 2, 0);
        EDGE.refused(Edge.LIVED, Check.UNKNOWN, "ofMaid", -1, 3);
        CHECK.says("Promise 5: OUTSIDE");
        EDGE.refused(Edge.LIVED, Check.OUTSIDE, "ofMaid", 0, 4);
        EDGE.refused(Edge.LIVED, Check.OUTSIDE, "ofMaid", 1, -1);
        CHECK.says("Promise 5: UNKNOWN; OUTSIDE, in this order");
        EDGE.refused(Edge.LIVED, Check.UNKNOWN, "ofMaid", 2, 4);
        EDGE.refused(Edge.LIVED, Check.UNKNOWN, "ofMaid", -1, -1);
        CHECK.says("Promise 5: whom she wed (NONE)");
        EDGE.tells(Edge.LIVED, 2, "ofMaid", 0, 3);
        EDGE.tells(Edge.LIVED, Check.NONE, "ofMaid", 1, 3);
    }

    private static void minds() {
        CHECK.says("MIND: of a MAID 5; of a PROUD one 7; of an HEIRESS 3, and how often she has refused");
        ThreeRefusals x = Check.valley("y13;m0;p0;h0;000");
        x.law(9);
        for (int refused = 0; refused <= 9; refused++) {
            CHECK.due("a MAID's", x.ofMaid(0, 1), 5);
            CHECK.due("a PROUD one's", x.ofMaid(1, 1), 7);
            CHECK.due("an HEIRESS's", x.ofMaid(2, 1), 3 + Math.min(refused, 8));
            CHECK.due("how often", x.ofMaid(2, 2), Math.min(refused, 8));
            if (refused < 8) {
                for (int maid = 0; maid < 3; maid++) {
                    CHECK.due("an offer", x.offer(0, maid), 3 * refused + maid);
                }
            }
        }
    }

    private static void noLessThanHerMind() {
        CHECK.says("TAKES: if her LIKING of him is no less than her MIND");
        ThreeRefusals x = Check.valley("y13;m0;p0;h0;000");
        int[] minds = {5, 7, 3};
        for (int v = 0; v <= 9; v++) {
            for (int maid = 0; maid < 3; maid++) {
                x.like(maid, 0, 0, v);
                x.undo(x.many(2));
                x.offer(0, maid);
                CHECK.due(v + " to maid " + maid, x.comes(0), v >= minds[maid] ? 1 : 3);
            }
        }
    }

    private static void mindsAboveAllLikings() {
        CHECK.says("MIND: of an HEIRESS 3, and how often she has refused by then");
        ThreeRefusals x = Check.valley("y21;h09;0;0");
        x.law(9);
        for (int refused = 0; refused <= 9; refused++) {
            CHECK.due("behind " + refused, x.ofMaid(0, 1), 3 + refused);
            CHECK.due("an offer", x.offer(1, 0), refused);
            CHECK.due("9 behind " + refused, x.comes(refused), refused < 7 ? 1 : refused < 9 ? 3 : 2);
            x.undo(1);
            x.offer(0, 0);
        }
        CHECK.due("she refused nine times", x.ofMaid(0, 2), 9);
        CHECK.due("her MIND, wed", x.ofMaid(0, 1), 12);
        CHECK.due("whom she wed", x.ofMaid(0, 3), 0);
    }

    // ---- Promise 6

    private static void lawRefused() {
        CHECK.says("Promise 6: OUTSIDE");
        for (Edge.Scene scene : new Edge.Scene[] {Edge.LIVED, Edge.FULL, Edge.NEW}) {
            EDGE.refused(scene, Check.OUTSIDE, "law", -1);
            EDGE.refused(scene, Check.OUTSIDE, "law", 10);
        }
        EDGE.taken(Edge.LIVED, 2, "law", 0);
        EDGE.taken(Edge.LIVED, 2, "law", 9);
        EDGE.tells(Edge.LIVED, 2, "law", 2);
        CHECK.says("Promise 6: STATE: there is no VALLEY");
        EDGE.refused(Edge.NEW, Check.STATE, "law", 0);
        EDGE.refused(Edge.NEW, Check.STATE, "law", 9);
    }

    private static void lawOfEnds() {
        CHECK.says("The LAW (0 .. 9): how often a MAID may refuse");
        ThreeRefusals x = Check.valley("y11;m0;0");
        for (int k = 0; k < 12; k++) {
            x.offer(0, 0);
        }
        for (int law : new int[] {0, 9, 1, 8, 3, 0}) {
            x.law(law);
            for (int k = 0; k < 12; k++) {
                CHECK.due("comes(" + k + ") by law " + law, x.comes(k), k < law ? 3 : k == law ? 2 : 0);
            }
            CHECK.due("how often by law " + law, x.ofMaid(0, 2), law);
        }
    }
}
