/** Promises 7 to 10: offer, comes, undo, pairs. */
public final class OffersTest {
    private static final Check CHECK = new Check();

    public static void main(String[] args) {
        offers();
        threeRefusalsAndNoMore();
        heiress();
        mustComesFirst();
        fewerOffersRefused();
        full();
        undo();
        pairs();
        CHECK.end();
    }

    private static void offers() {
        ThreeRefusals x = Check.valley(Check.THREE);
        CHECK.due("an offer", x.offer(3, 2), 0);
        CHECK.due("she refuses", x.comes(0), 3);
        CHECK.due("an offer", x.offer(0, 2), 1);
        CHECK.due("she takes him", x.comes(1), 1);
        CHECK.due("who is wed is asked", x.offer(1, 2), 2);
        CHECK.due("past", x.comes(2), 0);
        CHECK.due("who is wed asks", x.offer(0, 1), 3);
        CHECK.due("past", x.comes(3), 0);
        CHECK.due("that is no refusal", x.ofMaid(1, 2), 0);
        CHECK.due("nor of hers", x.ofMaid(2, 2), 1);
        CHECK.due("offers", x.many(2), 4);
        CHECK.due("no offer", x.comes(4), Check.UNKNOWN);
        CHECK.due("no offer", x.comes(-1), Check.UNKNOWN);
        CHECK.due("no offer", x.comes(Integer.MAX_VALUE), Check.UNKNOWN);
    }

    private static void threeRefusalsAndNoMore() {
        ThreeRefusals x = Check.valley("y11;m0;0");
        for (int k = 0; k < 6; k++) {
            CHECK.due("the same asks again", x.offer(0, 0), k);
            CHECK.due("comes(" + k + ")", x.comes(k), k < 3 ? 3 : k == 3 ? 2 : 0);
        }
        CHECK.due("refused", x.ofMaid(0, 2), 3);
        CHECK.due("wed", x.ofMaid(0, 3), 0);
    }

    private static void heiress() {
        ThreeRefusals x = Check.valley("y21;h24;0;0");
        x.offer(0, 0);
        CHECK.due("2 is below 3", x.comes(0), 3);
        x.offer(0, 0);
        CHECK.due("2 is below 4", x.comes(1), 3);
        x.offer(1, 0);
        CHECK.due("4 is below 5", x.comes(2), 3);
        x.offer(1, 0);
        CHECK.due("the fourth", x.comes(3), 2);
        CHECK.due("back", x.undo(3), 1);
        x.offer(1, 0);
        CHECK.due("4 is not below 4", x.comes(1), 1);
    }

    private static void mustComesFirst() {
        ThreeRefusals x = Check.valley("y21;m95;0;0");
        x.law(0);
        x.offer(0, 0);
        CHECK.due("she must, though she would", x.comes(0), 2);
        x.law(1);
        CHECK.due("she would", x.comes(0), 1);
        x.like(0, 0, 0, 4);
        x.undo(1);
        x.offer(0, 0);
        x.offer(1, 0);
        CHECK.due("she refuses", x.comes(0), 3);
        CHECK.due("she must, though she would", x.comes(1), 2);
        CHECK.due("wed", x.ofMaid(0, 3), 1);
    }

    private static void fewerOffersRefused() {
        ThreeRefusals x = Check.valley(Check.TWO);
        x.offer(2, 1);
        String was = Check.picture(x);
        CHECK.due("no suitor", x.offer(3, 0), Check.UNKNOWN);
        CHECK.due("no suitor", x.offer(-1, 0), Check.UNKNOWN);
        CHECK.due("no maid", x.offer(0, 2), Check.UNKNOWN);
        CHECK.due("no maid", x.offer(0, -1), Check.UNKNOWN);
        CHECK.due("all is as it was", Check.picture(x).equals(was) ? 1 : 0, 1);
    }

    private static void full() {
        ThreeRefusals x = Check.valley(Check.TWO);
        for (int k = 0; k < 24; k++) {
            CHECK.due("offer " + k, x.offer(k % 3, k % 2), k);
        }
        String was = Check.picture(x);
        CHECK.due("full", x.offer(0, 0), Check.FULL);
        CHECK.due("no maid comes ahead of full", x.offer(0, 2), Check.UNKNOWN);
        CHECK.due("all is as it was", Check.picture(x).equals(was) ? 1 : 0, 1);
        CHECK.due("one back", x.undo(1), 23);
        CHECK.due("one more", x.offer(0, 0), 23);
    }

    private static void undo() {
        ThreeRefusals x = Check.valley("y31;m449;1;2;3");
        x.offer(0, 0);
        x.offer(2, 0);
        x.offer(1, 0);
        CHECK.due("more than there are", x.undo(4), Check.OUTSIDE);
        CHECK.due("less than none", x.undo(-1), Check.OUTSIDE);
        CHECK.due("less than none", x.undo(Integer.MIN_VALUE), Check.OUTSIDE);
        CHECK.due("none", x.undo(0), 3);
        CHECK.due("wed as before", x.ofMaid(0, 3), 2);
        CHECK.due("two", x.undo(2), 1);
        CHECK.due("not wed", x.ofMaid(0, 3), Check.NONE);
        CHECK.due("nobody", x.pairs(), 999);
        CHECK.due("one refusal", x.ofMaid(0, 2), 1);
        CHECK.due("no offer 1", x.comes(1), Check.UNKNOWN);
        CHECK.due("offer 1 anew", x.offer(1, 0), 1);
        CHECK.due("it comes otherwise", x.comes(1), 3);
        CHECK.due("all", x.undo(2), 0);
        CHECK.due("no refusals", x.ofMaid(0, 2), 0);
        CHECK.due("none of none", x.undo(0), 0);
        CHECK.due("one of none", x.undo(1), Check.OUTSIDE);
    }

    private static void pairs() {
        ThreeRefusals x = new ThreeRefusals();
        CHECK.due("no valley", x.pairs(), Check.LOST);
        Check.settle(x, "y64;m999999;m999999;m999999;m999999;0000;0000;0000;0000;0000;0000");
        CHECK.due("nobody", x.pairs(), 999999);
        x.offer(0, 3);
        CHECK.due("the first one's is the lowest", x.pairs(), 999993);
        x.offer(5, 0);
        CHECK.due("the last one's is the highest", x.pairs(), 99993);
        x.offer(4, 1);
        x.offer(1, 2);
        CHECK.due("all maids", x.pairs(), 19923);
        Check.settle(x, "y11;m9;0");
        CHECK.due("one figure", x.pairs(), 9);
        x.offer(0, 0);
        CHECK.due("maid 0", x.pairs(), 0);
    }
}
