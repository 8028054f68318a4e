/** Promises 7 to 10 and Terms 2: offers, days and pairs at their edges. */
public final class EdgesOfOffersTest {
    private static final Check CHECK = new Check();
    private static final Edge EDGE = new Edge(CHECK);
    private static final String GREATEST =
        "y64;m999999;m999999;m999999;m999999;0000;0000;0000;0000;0000;0000";

    public static void main(String[] args) {
        offerUnknown();
        offerOfTheLast();
        offerFull();
        offerInOrder();
        numbers();
        past();
        must();
        mustAheadOfTakes();
        takes();
        comesUnknown();
        undoOutside();
        undone();
        undoneOfAll();
        pairsLost();
        figures();
        CHECK.end();
    }

    private static void offerUnknown() {
        CHECK.says("Promise 7: UNKNOWN: SUITOR, MAID");
        for (int far : new int[] {-1, 3, 4, 9}) {
            EDGE.refused(Edge.LIVED, Check.UNKNOWN, "offer", far, 0);
        }
        for (int far : new int[] {-1, 2, 3, 9}) {
            EDGE.refused(Edge.LIVED, Check.UNKNOWN, "offer", 0, far);
        }
        EDGE.refused(Edge.LIVED, Check.UNKNOWN, "offer", 3, 2);
    }

    private static void offerOfTheLast() {
        CHECK.says("Terms 2: a SUITOR asks a MAID: the first and the last of both");
        EDGE.taken(Edge.LIVED, 3, "offer", 0, 0);
        EDGE.taken(Edge.LIVED, 3, "offer", 2, 1);
        ThreeRefusals x = Check.valley(GREATEST);
        CHECK.due("of the greatest valley", x.offer(5, 3), 0);
        CHECK.due("wed", x.ofMaid(3, 3), 5);
        x = Check.valley("y11;h9;0");
        CHECK.due("of the least valley", x.offer(0, 0), 0);
        CHECK.due("wed", x.ofMaid(0, 3), 0);
    }

    private static void offerFull() {
        CHECK.says("Terms 2: OFFERS, 24 at most");
        ThreeRefusals x = Check.valley(Check.TWO);
        for (int k = 0; k < 24; k++) {
            CHECK.due("offer " + k, x.offer(k % 3, 1), k);
        }
        CHECK.due("how many", x.many(2), 24);
        CHECK.due("the last one's", x.comes(23), 0);
        CHECK.says("Promise 7: FULL");
        CHECK.due("one more", x.offer(0, 0), Check.FULL);
        CHECK.due("how many", x.many(2), 24);
        CHECK.due("it is none", x.comes(24), Check.UNKNOWN);
        EDGE.refused(Edge.FULL, Check.FULL, "offer", 0, 0);
        EDGE.refused(Edge.FULL, Check.FULL, "offer", 2, 1);
    }

    private static void offerInOrder() {
        CHECK.says("Promise 7: UNKNOWN; FULL, in this order");
        EDGE.refused(Edge.FULL, Check.UNKNOWN, "offer", 3, 0);
        EDGE.refused(Edge.FULL, Check.UNKNOWN, "offer", 0, 2);
        EDGE.refused(Edge.FULL, Check.UNKNOWN, "offer", -1, -1);
    }

    private static void numbers() {
        CHECK.says("Terms 2: each numbered by how many there are ahead of it (the first one 0)");
        ThreeRefusals x = Check.valley(Check.TWO);
        CHECK.due("the first", x.offer(0, 0), 0);
        CHECK.due("the second", x.offer(0, 0), 1);
        x.undo(1);
        CHECK.due("the second anew", x.offer(1, 0), 1);
        x.undo(2);
        CHECK.due("the first anew", x.offer(1, 0), 0);
        Check.settle(x, Check.TWO);
        CHECK.due("the first of a new valley", x.offer(0, 0), 0);
        for (int k = 1; k < 24; k++) {
            x.offer(0, 0);
        }
        x.undo(1);
        CHECK.due("the last anew", x.offer(2, 1), 23);
    }

    private static void past() {
        CHECK.says("Terms 2: if one of both is wed, nothing comes of it (PAST)");
        ThreeRefusals x = Check.valley("y32;m990;m990;00;00;00");
        x.offer(0, 0);
        int[][] asks = {{0, 0}, {0, 1}, {1, 0}, {2, 0}};
        for (int[] ask : asks) {
            int number = x.offer(ask[0], ask[1]);
            CHECK.due("who is wed asks, or is asked", x.comes(number), 0);
        }
        CHECK.due("no refusal of hers", x.ofMaid(0, 2), 0);
        CHECK.due("no refusal of the other's", x.ofMaid(1, 2), 0);
        x.offer(1, 1);
        CHECK.due("two who are not wed", x.comes(5), 1);
        CHECK.due("both are wed, not to one another", x.comes(x.offer(0, 1)), 0);
        CHECK.due("the third one asks in vain", x.comes(x.offer(2, 1)), 0);
        x.law(0);
        CHECK.due("who is wed must not", x.comes(1), 0);
        CHECK.due("nor by another", x.comes(2), 0);
    }

    private static void must() {
        CHECK.says("Terms 2: she MUST take him, if she has refused as often as the LAW lets her");
        for (int law = 0; law <= 9; law++) {
            ThreeRefusals x = Check.valley("y22;p66;m00;00;00");
            x.law(law);
            for (int k = 0; k < law; k++) {
                CHECK.due("refusal " + k + " of " + law, x.comes(x.offer(k % 2, 0)), 3);
                CHECK.due("not yet wed", x.ofMaid(0, 3), Check.NONE);
            }
            CHECK.due("refused", x.ofMaid(0, 2), law);
            CHECK.due("the next one", x.comes(x.offer(1, 0)), 2);
            CHECK.due("whom she took she weds", x.ofMaid(0, 3), 1);
            CHECK.due("that is no refusal", x.ofMaid(0, 2), law);
            CHECK.due("the other maid may refuse yet", x.comes(x.offer(0, 1)), law == 0 ? 2 : 3);
        }
    }

    private static void mustAheadOfTakes() {
        CHECK.says("Terms 2: Else she MUST take him ..; or TAKES him, in this order");
        ThreeRefusals x = Check.valley("y21;m49;0;0");
        x.law(0);
        CHECK.due("9, by law 0", x.comes(x.offer(1, 0)), 2);
        x.undo(1);
        x.law(1);
        x.offer(0, 0);
        CHECK.due("9, by law 1", x.comes(x.offer(1, 0)), 2);
        x.law(2);
        CHECK.due("9, by law 2", x.comes(1), 1);
    }

    private static void takes() {
        CHECK.says("Terms 2: what comes of an OFFER: 0 PAST, 1 TAKES, 2 MUST, 3 REFUSES");
        ThreeRefusals x = Check.valley("y41;m4495;0;0;0;0");
        x.law(2);
        x.offer(0, 0);
        x.offer(1, 0);
        x.offer(2, 0);
        x.offer(3, 0);
        int[] want = {3, 3, 2, 0};
        for (int k = 0; k < 4; k++) {
            CHECK.due("comes(" + k + ")", x.comes(k), want[k]);
        }
        x.law(3);
        CHECK.due("by her own will", x.comes(2), 1);
    }

    private static void comesUnknown() {
        CHECK.says("Promise 8: UNKNOWN");
        EDGE.refused(Edge.LIVED, Check.UNKNOWN, "comes", 3);
        EDGE.refused(Edge.LIVED, Check.UNKNOWN, "comes", -1);
        EDGE.refused(Edge.FULL, Check.UNKNOWN, "comes", 24);
        EDGE.refused(Edge.FULL, Check.UNKNOWN, "comes", -1);
        EDGE.refused(x -> {
            Edge.FULL.play(x);
            x.undo(24);
        }, Check.UNKNOWN, "comes", 0);
        EDGE.tells(Edge.LIVED, 3, "comes", 0);
        EDGE.tells(Edge.LIVED, 1, "comes", 2);
        EDGE.tells(Edge.FULL, 0, "comes", 23);
    }

    private static void undoOutside() {
        CHECK.says("Promise 9: OUTSIDE: k is not 0 .. as many as there are");
        EDGE.refused(Edge.LIVED, Check.OUTSIDE, "undo", -1);
        EDGE.refused(Edge.LIVED, Check.OUTSIDE, "undo", 4);
        EDGE.refused(Edge.FULL, Check.OUTSIDE, "undo", 25);
        EDGE.tells(Edge.LIVED, 3, "undo", 0);
        EDGE.tells(Edge.FULL, 24, "undo", 0);
        EDGE.taken(Edge.LIVED, 2, "undo", 1);
        EDGE.taken(Edge.LIVED, 0, "undo", 3);
        EDGE.taken(Edge.FULL, 0, "undo", 24);
        CHECK.says("Promise 9: of a VALLEY without OFFERS");
        Edge.Scene none = x -> Check.settle(x, Check.TWO);
        EDGE.tells(none, 0, "undo", 0);
        EDGE.refused(none, Check.OUTSIDE, "undo", 1);
    }

    private static void undone() {
        CHECK.says("Promise 9: the last k OFFERS are taken back");
        for (int left = 0; left <= 12; left++) {
            ThreeRefusals x = Check.valley("y32;h155;m343;00;00;00");
            ThreeRefusals twin = Check.valley("y32;h155;m343;00;00;00");
            for (int k = 0; k < 12; k++) {
                x.offer(k % 3, k / 2 % 2);
                if (k < left) {
                    twin.offer(k % 3, k / 2 % 2);
                }
            }
            CHECK.due("how many are left", x.undo(12 - left), left);
            CHECK.same("as if they had not been", Check.picture(x), Check.picture(twin));
        }
    }

    private static void undoneOfAll() {
        CHECK.says("Promise 9: all are taken back");
        ThreeRefusals x = new ThreeRefusals();
        Edge.FULL.play(x);
        CHECK.due("none left", x.undo(24), 0);
        CHECK.due("none", x.many(2), 0);
        CHECK.due("nobody wed", x.pairs(), 999);
        CHECK.due("no refusals", x.ofMaid(0, 2) + x.ofMaid(1, 2), 0);
        CHECK.due("the law stays", x.many(4), 2);
        CHECK.due("readings stay", x.many(3), 8);
        CHECK.due("no more", x.undo(1), Check.OUTSIDE);
    }

    private static void pairsLost() {
        CHECK.says("Promise 10: LOST: STATE: there is no VALLEY");
        EDGE.lost(Edge.NEW, 0, "pairs");
        EDGE.lost(Edge.SHEETS, 0, "pairs");
        EDGE.lost(x -> Check.settle(x, "y11;p7;"), 0, "pairs");
        EDGE.tells(x -> Check.settle(x, "y11;p7;4"), 9, "pairs");
    }

    private static void figures() {
        CHECK.says("Promise 10: so many figures as SUITORS, the last one's the highest: or 9");
        ThreeRefusals x = Check.valley("y11;h9;0");
        CHECK.due("one, nobody", x.pairs(), 9);
        x.offer(0, 0);
        CHECK.due("one, maid 0", x.pairs(), 0);
        x = Check.valley(GREATEST);
        CHECK.due("six, nobody", x.pairs(), 999999);
        long[] want = {999990, 999910, 992910, 932910};
        int[] suitors = {0, 1, 3, 4};
        for (int maid = 0; maid < 4; maid++) {
            x.offer(suitors[maid], maid);
            CHECK.due("maid " + maid, x.pairs(), want[maid]);
        }
        x.undo(4);
        x.offer(5, 0);
        CHECK.due("the last one, maid 0", x.pairs(), 99999);
        x.undo(1);
        x.offer(5, 3);
        CHECK.due("the last one, maid 3", x.pairs(), 399999);
    }
}
