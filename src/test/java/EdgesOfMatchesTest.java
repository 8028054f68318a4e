/** Promises 13 and 14 and Terms 4: matches, and rows that bring them, at their edges. */
public final class EdgesOfMatchesTest {
    private static final Check CHECK = new Check();
    private static final Edge EDGE = new Edge(CHECK);
    private static final String GREATEST =
        "y64;m555555;m555555;m555555;m555555;5555;5555;5555;5555;5555;5555";

    public static void main(String[] args) {
        firmUnknown();
        firmState();
        firmOfEnds();
        nobodyIsLikedLeast();
        eachLikesMore();
        firstNobodyLast();
        firstOfSeveral();
        firmIsOfLikingsAlone();
        broughtState();
        broughtOfEnds();
        broughtNone();
        broughtInOrder();
        broughtByNoneOther();
        CHECK.end();
    }

    private static void firmUnknown() {
        CHECK.says("Promise 13: UNKNOWN: suitor is not -1, no SUITOR");
        EDGE.refused(Edge.LIVED, Check.UNKNOWN, "firm", -2);
        EDGE.refused(Edge.LIVED, Check.UNKNOWN, "firm", 3);
        EDGE.refused(Edge.LIVED, Check.UNKNOWN, "firm", 9);
        EDGE.tells(Edge.LIVED, 2, "firm", -1);
        EDGE.tells(Edge.LIVED, 1, "firm", 0);
        EDGE.tells(Edge.LIVED, 9, "firm", 2);
    }

    private static void firmState() {
        CHECK.says("Promise 13: STATE: there is no VALLEY");
        EDGE.refused(Edge.NEW, Check.STATE, "firm", -1);
        CHECK.says("Promise 13: UNKNOWN; STATE, in this order");
        EDGE.refused(Edge.NEW, Check.UNKNOWN, "firm", 0);
        EDGE.refused(Edge.NEW, Check.UNKNOWN, "firm", -2);
    }

    /** How many firm matches; whom each suitor weds in the first. */
    private static void firm(ThreeRefusals x, int many, int... first) {
        CHECK.due("firm(-1)", x.firm(-1), many);
        for (int suitor = 0; suitor < first.length; suitor++) {
            CHECK.due("firm(" + suitor + ")", x.firm(suitor), first[suitor]);
        }
        CHECK.due("no more suitors", x.firm(first.length), Check.UNKNOWN);
    }

    private static void firmOfEnds() {
        CHECK.says("FIRM, of SUITORS 1 and 6, MAIDS 1 and 4, LIKINGS 0 and 9");
        firm(Check.valley("y11;m0;0"), 1, 0);
        firm(Check.valley("y11;m9;9"), 1, 0);
        firm(Check.valley("y14;m0;m0;m0;m0;0000"), 4, 0);
        firm(Check.valley("y14;m0;m0;m0;m0;0009"), 1, 3);
        firm(Check.valley("y61;m000000;0;0;0;0;0;0"), 6, 0, 9, 9, 9, 9, 9);
        firm(Check.valley("y61;m000009;0;0;0;0;0;0"), 1, 9, 9, 9, 9, 9, 0);
        firm(Check.valley(GREATEST), 360, 0, 1, 2, 3, 9, 9);
    }

    private static void nobodyIsLikedLeast() {
        CHECK.says("FIRM: each LIKES the other more than whom it has (nobody: -1)");
        // Both have nobody in the one match that is not firm: 0 is more than -1 for both.
        firm(Check.valley("y11;m0;0"), 1, 0);
        firm(Check.valley("y12;m0;m0;00"), 2, 0);
        firm(Check.valley("y21;m00;0;0"), 2, 0, 9);
        firm(Check.valley("y22;m00;m00;00;00"), 2, 0, 1);
    }

    private static void eachLikesMore() {
        CHECK.says("FIRM: each LIKES the other more: as much is not more, one alone is not each");
        firm(Check.valley("y22;m55;m55;55;55"), 2, 0, 1);
        firm(Check.valley("y22;m56;m55;55;55"), 2, 0, 1);
        firm(Check.valley("y22;m55;m55;55;65"), 2, 0, 1);
        firm(Check.valley("y22;m56;m55;55;65"), 1, 1, 0);
    }

    private static void firstNobodyLast() {
        CHECK.says("FIRM: the first (as a row of MAIDS by SUITORS, nobody 9 and last)");
        firm(Check.valley("y21;m55;5;5"), 2, 0, 9);
        firm(Check.valley("y31;m155;5;5;5"), 2, 9, 0, 9);
        firm(Check.valley("y32;m555;m555;55;55;55"), 6, 0, 1, 9);
        firm(Check.valley("y32;m155;m155;55;55;55"), 2, 9, 0, 1);
    }

    private static void firstOfSeveral() {
        CHECK.says("FIRM: the first: the first SUITOR's MAID counts most");
        // What the suitors like best, what the maids do, and, of three, what is between.
        firm(Check.valley("y22;m12;m21;21;12"), 2, 0, 1);
        firm(Check.valley("y22;m21;m12;12;21"), 2, 0, 1);
        firm(Check.valley("y33;m132;m213;m321;321;132;213"), 3, 0, 1, 2);
    }

    private static void firmIsOfLikingsAlone() {
        CHECK.says("FIRM is of LIKINGS alone");
        ThreeRefusals x = Check.valley(Check.TWO);
        firm(x, 2, 1, 0, 9);
        x.law(0);
        x.offer(2, 0);
        x.offer(2, 1);
        x.offer(0, 1);
        x.reading(0, 0, 0, true);
        firm(x, 2, 1, 0, 9);
        CHECK.due("offers stay", x.pairs(), 91);
    }

    private static void broughtState() {
        CHECK.says("Promise 14: STATE: there is no VALLEY");
        EDGE.refused(Edge.NEW, Check.STATE, "brought");
        EDGE.refused(Edge.SHEETS, Check.STATE, "brought");
        EDGE.refused(x -> Check.settle(x, "y11;p7;"), Check.STATE, "brought");
        EDGE.tells(x -> Check.settle(x, "y11;p7;4"), 1, "brought");
    }

    private static void broughtOfEnds() {
        CHECK.says("BROUGHT, of SUITORS 1 and 6, MAIDS 1 and 4");
        CHECK.due("the one row", Check.valley("y11;m5;0").brought(), 1);
        CHECK.due("one suitor, four maids", Check.valley("y14;m5;m5;m5;m5;0000").brought(), 4);
        CHECK.due("he likes the last most", Check.valley("y14;m5;m5;m5;m5;0001").brought(), 1);
        CHECK.due("six suitors, one maid", Check.valley("y61;m555555;0;0;0;0;0;0").brought(), 1);
        CHECK.due("the greatest: each maid is asked", Check.valley(GREATEST).brought(), 1560);
    }

    private static void broughtNone() {
        CHECK.says("BROUGHT: how many: none");
        CHECK.due("she refuses", Check.valley("y11;m4;0").brought(), 0);
        CHECK.due("the last would break it", Check.valley("y61;m555556;0;0;0;0;0;0").brought(), 0);
        ThreeRefusals x = Check.valley("y64;m000000;m000000;m000000;m000000;"
            + "0000;0000;0000;0000;0000;0000");
        CHECK.due("nobody is taken by more than one maid", x.brought(), 0);
        x.law(9);
        CHECK.due("nobody is taken", x.brought(), 0);
        x.law(0);
        CHECK.due("each must at once", x.brought(), 1560);
    }

    private static void broughtInOrder() {
        CHECK.says("BROUGHT: each SUITOR asks one MAID, in the order of their numbers");
        ThreeRefusals x = Check.valley("y21;m95;0;0");
        CHECK.due("whom she likes most asks first", x.brought(), 1);
        x.like(0, 1, 0, 9);
        x.like(0, 0, 0, 5);
        CHECK.due("he asks last", x.brought(), 0);
        x.like(0, 0, 0, 4);
        CHECK.due("the first one is refused", x.brought(), 1);
        x.law(0);
        CHECK.due("she must take the first", x.brought(), 0);
        x = Check.valley("y41;m4449;0;0;0;0");
        CHECK.due("three refusals, and the fourth", x.brought(), 1);
        x.law(2);
        CHECK.due("she must take the third", x.brought(), 0);
        x.like(0, 3, 0, 4);
        CHECK.due("as much is not more", x.brought(), 1);
    }

    private static void broughtByNoneOther() {
        CHECK.says("BROUGHT: as if none other were made");
        ThreeRefusals x = Check.valley("y21;m49;0;0");
        CHECK.due("ahead of offers", x.brought(), 1);
        x.offer(0, 0);
        x.offer(0, 0);
        CHECK.due("behind two refusals", x.brought(), 1);
        x.offer(0, 0);
        x.offer(0, 0);
        CHECK.due("she is wed", x.ofMaid(0, 3), 0);
        CHECK.due("behind a wedding", x.brought(), 1);
        CHECK.due("all stays", x.many(2), 4);
        CHECK.due("wed as before", x.pairs(), 90);
    }
}
