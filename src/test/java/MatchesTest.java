/** Promises 13 and 14: firm, brought. */
public final class MatchesTest {
    private static final Check CHECK = new Check();

    public static void main(String[] args) {
        firm();
        firmByTies();
        firmIsNotOfOffers();
        firmRefused();
        brought();
        broughtByLaws();
        CHECK.end();
    }

    private static void firm() {
        // He 0 would have 0, she 0 would have 1: two firm matches, the suitors' best comes first.
        ThreeRefusals x = Check.valley("y22;m12;m21;21;12");
        CHECK.due("two", x.firm(-1), 2);
        CHECK.due("the first weds 0", x.firm(0), 0);
        CHECK.due("the second weds 1", x.firm(1), 1);
        x.like(0, 0, 0, 3);
        CHECK.due("one", x.firm(-1), 1);
        CHECK.due("0", x.firm(0), 0);
        x.like(0, 0, 0, 1);
        x.like(0, 0, 1, 0);
        x.like(1, 1, 1, 0);
        CHECK.due("one", x.firm(-1), 1);
        CHECK.due("1", x.firm(0), 1);
        CHECK.due("0", x.firm(1), 0);
        Check.settle(x, Check.TWO);
        CHECK.due("two of three suitors", x.firm(-1), 2);
        CHECK.due("1", x.firm(0), 1);
        CHECK.due("0", x.firm(1), 0);
        CHECK.due("nobody", x.firm(2), 9);
    }

    private static void firmByTies() {
        ThreeRefusals x = Check.valley("y11;m0;0");
        CHECK.due("0 is more than nobody", x.firm(-1), 1);
        CHECK.due("0 is more than nobody", x.firm(0), 0);
        Check.settle(x, "y33;m000;m000;m000;000;000;000");
        CHECK.due("each match of all", x.firm(-1), 6);
        for (int suitor = 0; suitor < 3; suitor++) {
            CHECK.due("the first of them", x.firm(suitor), suitor);
        }
        Check.settle(x, "y22;m12;m11;00;00");
        CHECK.due("she would, but he would not more", x.firm(-1), 2);
        Check.settle(x, "y22;m11;m11;00;10");
        CHECK.due("he would, but she would not more", x.firm(-1), 2);
        Check.settle(x, "y64;m555555;m555555;m555555;m555555;5555;5555;5555;5555;5555;5555");
        CHECK.due("four of six", x.firm(-1), 360);
        for (int suitor = 0; suitor < 6; suitor++) {
            CHECK.due("the first four", x.firm(suitor), suitor < 4 ? suitor : 9);
        }
        Check.settle(x, "y14;m1;m1;m1;m1;5595");
        CHECK.due("one suitor", x.firm(-1), 1);
        CHECK.due("whom he likes most", x.firm(0), 2);
        Check.settle(x, "y61;m135939;1;1;1;1;1;1");
        CHECK.due("whom she likes most", x.firm(-1), 2);
        for (int suitor = 0; suitor < 6; suitor++) {
            CHECK.due("the first of both", x.firm(suitor), suitor == 3 ? 0 : 9);
        }
    }

    private static void firmIsNotOfOffers() {
        ThreeRefusals x = Check.valley(Check.TWO);
        x.offer(2, 0);
        x.offer(0, 1);
        CHECK.due("both wed", x.pairs(), 91);
        x.law(0);
        CHECK.due("firm", x.firm(-1), 2);
        CHECK.due("both wed", x.pairs(), 91);
        CHECK.due("offers", x.many(2), 2);
    }

    private static void firmRefused() {
        ThreeRefusals x = new ThreeRefusals();
        CHECK.due("no valley", x.firm(-1), Check.STATE);
        CHECK.due("no suitor", x.firm(0), Check.UNKNOWN);
        CHECK.due("no suitor", x.firm(-2), Check.UNKNOWN);
        Check.settle(x, Check.TWO);
        CHECK.due("no suitor", x.firm(3), Check.UNKNOWN);
        CHECK.due("no suitor", x.firm(-2), Check.UNKNOWN);
        CHECK.due("no suitor", x.firm(Integer.MIN_VALUE), Check.UNKNOWN);
        CHECK.due("all the same", x.firm(-1), 2);
    }

    private static void brought() {
        ThreeRefusals x = new ThreeRefusals();
        CHECK.due("no valley", x.brought(), Check.STATE);
        Check.settle(x, "y11;m5;0");
        CHECK.due("the one row", x.brought(), 1);
        x.like(0, 0, 0, 4);
        CHECK.due("she refuses", x.brought(), 0);
        x.law(0);
        CHECK.due("she must", x.brought(), 1);
        Check.settle(x, "y22;m55;m55;00;00");
        CHECK.due("each another", x.brought(), 2);
        x.like(0, 0, 1, 1);
        CHECK.due("0 would have 0, she would not more", x.brought(), 2);
        x.like(0, 0, 0, 6);
        CHECK.due("each would", x.brought(), 1);
        x.like(0, 1, 0, 6);
        CHECK.due("she is as well off with 1", x.brought(), 2);
        Check.settle(x, "y21;m59;0;0");
        CHECK.due("the first is taken, the second would break it", x.brought(), 0);
        x.like(0, 0, 0, 4);
        CHECK.due("the first is refused", x.brought(), 1);
        Check.settle(x, Check.TWO);
        x.offer(0, 0);
        x.offer(1, 1);
        CHECK.due("as if no offer were", x.brought(), 3);
        CHECK.due("offers stay", x.pairs(), 999);
        CHECK.due("refusals stay", x.ofMaid(0, 2) + x.ofMaid(1, 2), 2);
    }

    private static void broughtByLaws() {
        ThreeRefusals x = Check.valley("y64;m999999;m999999;m999999;m999999;"
            + "5555;5555;5555;5555;5555;5555");
        // The four maids wed in each order, and the other two of six ask in vain.
        CHECK.due("onto", x.brought(), 1560);
        for (int law = 0; law < 10; law++) {
            x.law(law);
            CHECK.due("who takes all asks no law", x.brought(), 1560);
        }
        Check.settle(x, "y22;m44;m44;00;00");
        x.law(1);
        CHECK.due("refusals of one row are none of another", x.brought(), 0);
        x.law(0);
        CHECK.due("each must", x.brought(), 2);
        Check.settle(x, "y31;m444;0;0;0");
        x.law(2);
        CHECK.due("the third she must take", x.brought(), 1);
        x.law(3);
        CHECK.due("three she may refuse", x.brought(), 0);
        x.law(0);
        CHECK.due("the first she must take", x.brought(), 1);
        x.like(0, 2, 0, 5);
        CHECK.due("he is not the one", x.brought(), 0);
        x.law(2);
        CHECK.due("now he is", x.brought(), 1);
    }
}
