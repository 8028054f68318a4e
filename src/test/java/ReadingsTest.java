/** Promises 16 to 19: reading, back, learnt, kinds. */
public final class ReadingsTest {
    private static final Check CHECK = new Check();

    public static void main(String[] args) {
        readings();
        back();
        learntOfKinds();
        learntOfNone();
        kinds();
        refused();
        CHECK.end();
    }

    private static void learnt(ThreeRefusals x, int maid, int suitor, int least, int greatest) {
        CHECK.due("the least of " + maid + " " + suitor, x.learnt(maid, suitor, 0), least);
        CHECK.due("the greatest of " + maid + " " + suitor, x.learnt(maid, suitor, 1), greatest);
    }

    private static void readings() {
        ThreeRefusals x = Check.valley(Check.THREE);
        for (int k = 0; k < 8; k++) {
            CHECK.due("reading " + k, x.reading(k % 3, k % 4, k, k % 2 == 0), k);
            CHECK.due("how many", x.many(3), k + 1);
        }
        CHECK.due("full", x.reading(0, 0, 0, true), Check.FULL);
        CHECK.due("outside comes ahead of full", x.reading(0, 0, 10, true), Check.OUTSIDE);
        CHECK.due("how many", x.many(3), 8);
        CHECK.due("no offers by it", x.many(2), 0);
    }

    private static void back() {
        ThreeRefusals x = Check.valley(Check.THREE);
        CHECK.due("none of none", x.back(0), 0);
        CHECK.due("one of none", x.back(1), Check.OUTSIDE);
        x.reading(1, 0, 0, true);
        x.reading(1, 0, 0, false);
        learnt(x, 1, 0, Check.NONE, Check.NONE);
        CHECK.due("more than there are", x.back(3), Check.OUTSIDE);
        CHECK.due("less than none", x.back(-1), Check.OUTSIDE);
        CHECK.due("less than none", x.back(Integer.MIN_VALUE), Check.OUTSIDE);
        CHECK.due("none", x.back(0), 2);
        CHECK.due("the last", x.back(1), 1);
        learnt(x, 1, 0, 5, 9);
        CHECK.due("a new one", x.reading(1, 1, 0, false), 1);
        learnt(x, 1, 1, 0, 4);
        CHECK.due("both", x.back(2), 0);
        learnt(x, 1, 0, 0, 9);
        learnt(x, 1, 1, 0, 9);
    }

    private static void learntOfKinds() {
        ThreeRefusals x = Check.valley(Check.THREE);
        learnt(x, 0, 0, 0, 9);
        x.reading(1, 3, 9, true);
        learnt(x, 1, 3, 5, 9);
        x.reading(1, 2, 0, false);
        learnt(x, 1, 2, 0, 4);
        x.reading(2, 3, 0, true);
        learnt(x, 2, 3, 7, 9);
        x.reading(2, 0, 9, false);
        learnt(x, 2, 0, 0, 6);
        x.reading(0, 0, 0, true);
        learnt(x, 0, 0, 3, 9);
        x.reading(0, 0, 4, false);
        learnt(x, 0, 0, 3, 6);
        x.reading(0, 0, 2, true);
        learnt(x, 0, 0, 5, 6);
        x.reading(0, 1, 6, true);
        learnt(x, 0, 1, 9, 9);
        learnt(x, 0, 0, 5, 6);
        learnt(x, 1, 0, 0, 9);
        x.like(0, 0, 0, 9);
        x.law(0);
        learnt(x, 0, 0, 5, 6);
    }

    private static void learntOfNone() {
        ThreeRefusals x = Check.valley(Check.THREE);
        x.reading(0, 0, 7, true);
        learnt(x, 0, 0, Check.NONE, Check.NONE);
        x.back(1);
        x.reading(0, 0, 9, false);
        learnt(x, 0, 0, 0, 9);
        x.reading(2, 1, 0, true);
        x.reading(2, 1, 1, false);
        learnt(x, 2, 1, Check.NONE, Check.NONE);
        learnt(x, 2, 0, 0, 9);
    }

    private static void kinds() {
        ThreeRefusals x = Check.valley("y61;m734568;0;0;0;0;0;0");
        CHECK.due("no readings: all", x.kinds(0), 7);
        x.reading(0, 3, 0, true);
        CHECK.due("5 was taken: no proud one", x.kinds(0), 1 + 4);
        x.reading(0, 2, 0, false);
        CHECK.due("4 was refused: no heiress", x.kinds(0), 1);
        x.back(1);
        x.reading(0, 1, 0, true);
        CHECK.due("3 was taken: an heiress", x.kinds(0), 4);
        x.reading(0, 4, 4, false);
        CHECK.due("6 was refused at 4: an heiress", x.kinds(0), 4);
        x.reading(0, 0, 5, false);
        CHECK.due("7 was refused at 5: an heiress", x.kinds(0), 4);
        x.reading(0, 0, 4, false);
        CHECK.due("7 was refused at 4: none", x.kinds(0), 0);
        x.like(0, 0, 0, 6);
        CHECK.due("by her likings now", x.kinds(0), 4);
        CHECK.due("all back", x.back(5), 0);
        x.reading(0, 4, 0, false);
        CHECK.due("6 was refused: a proud one", x.kinds(0), 2);
        x.reading(0, 5, 9, true);
        CHECK.due("8 was taken: a proud one", x.kinds(0), 2);
        x.reading(0, 5, 5, true);
        CHECK.due("8 was taken: a proud one", x.kinds(0), 2);
        ThreeRefusals y = Check.valley(Check.THREE);
        y.reading(2, 3, 0, true);
        CHECK.due("of another maid", y.kinds(1), 7);
        CHECK.due("of her", y.kinds(2), 0);
    }

    private static void refused() {
        ThreeRefusals x = Check.valley(Check.THREE);
        x.reading(0, 0, 0, true);
        String was = Check.picture(x);
        CHECK.due("no maid", x.reading(3, 0, 10, true), Check.UNKNOWN);
        CHECK.due("no maid", x.reading(-1, 0, 0, true), Check.UNKNOWN);
        CHECK.due("no suitor", x.reading(0, 4, -1, true), Check.UNKNOWN);
        CHECK.due("no suitor", x.reading(0, -1, 0, true), Check.UNKNOWN);
        CHECK.due("refused -1", x.reading(0, 0, -1, true), Check.OUTSIDE);
        CHECK.due("refused 10", x.reading(0, 0, 10, true), Check.OUTSIDE);
        CHECK.due("all is as it was", Check.picture(x).equals(was) ? 1 : 0, 1);
        CHECK.due("no maid", x.learnt(3, 0, 2), Check.UNKNOWN);
        CHECK.due("no maid", x.learnt(-1, 0, 0), Check.UNKNOWN);
        CHECK.due("no suitor", x.learnt(0, 4, 2), Check.UNKNOWN);
        CHECK.due("no suitor", x.learnt(0, -1, 0), Check.UNKNOWN);
        CHECK.due("what 2", x.learnt(0, 0, 2), Check.OUTSIDE);
        CHECK.due("what -1", x.learnt(0, 0, -1), Check.OUTSIDE);
        CHECK.due("no maid", x.kinds(3), Check.UNKNOWN);
        CHECK.due("no maid", x.kinds(-1), Check.UNKNOWN);
    }
}
