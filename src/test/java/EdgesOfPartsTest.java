/** Promises 25 to 28 and 30: telling, greeting, kinds, the trace and counts at their edges. */
public final class EdgesOfPartsTest {
    private static final Check CHECK = new Check();
    private static final Edge EDGE = new Edge(CHECK);
    /** A maid, a proud one, an heiress, another maid. */
    private static final Edge.Scene FOUR = x -> Check.settle(x, "y14;m1;p2;h3;m4;1234");

    public static void main(String[] args) {
        tellUnknown();
        tellOfEveryKind();
        greetUnknown();
        greetOfEveryKind();
        asUnknown();
        asOutside();
        asCast();
        asInOrder();
        traceWraps();
        manyOutside();
        manyOfEnds();
        CHECK.end();
    }

    private static void tellUnknown() {
        CHECK.says("Promise 25: UNKNOWN");
        EDGE.refused(Edge.LIVED, Check.UNKNOWN, "tell", 2);
        EDGE.refused(Edge.LIVED, Check.UNKNOWN, "tell", -1);
        EDGE.refused(FOUR, Check.UNKNOWN, "tell", 4);
    }

    /** Her telling, and the bodies that leave their numbers, behind a trace that is not 0. */
    private static void told(ThreeRefusals x, long got, long want, int... bodies) {
        CHECK.due("told", got, want);
        CHECK.due("trace", x.trace(), traced(0, bodies));
    }

    private static int traced(long trace, int... bodies) {
        long after = trace;
        for (int body : bodies) {
            after = (int) (31 * after + body);
        }
        return (int) after;
    }

    private static void tellOfEveryKind() {
        CHECK.says("TELLING of the first and of the last MAID");
        ThreeRefusals x = new ThreeRefusals();
        FOUR.play(x);
        told(x, x.tell(0), 0, 1);
        told(x, x.tell(3), 3, 1, 1);
        told(x, x.tell(1), 101, 1, 1, 2, 1);
        told(x, x.tell(2), 104, 1, 1, 2, 1, 3, 2, 1, 1);
        CHECK.says("TELLING of MAID 0, of each kind");
        told(x = Check.valley("y11;m1;1"), x.tell(0), 0, 1);
        told(x = Check.valley("y11;p1;1"), x.tell(0), 100, 2, 1);
        told(x = Check.valley("y11;h1;1"), x.tell(0), 100, 3, 2, 1, 1);
    }

    private static void greetUnknown() {
        CHECK.says("Promise 26: UNKNOWN");
        EDGE.refused(Edge.LIVED, Check.UNKNOWN, "greet", 2);
        EDGE.refused(Edge.LIVED, Check.UNKNOWN, "greet", -1);
        EDGE.refused(FOUR, Check.UNKNOWN, "greet", 4);
    }

    private static void greetOfEveryKind() {
        CHECK.says("GREETED by a lent body: her number; HEIRESSES have their own: 70");
        ThreeRefusals x = new ThreeRefusals();
        FOUR.play(x);
        told(x, x.greet(0), 0, 4);
        told(x, x.greet(1), 1, 4, 4);
        told(x, x.greet(2), 70, 4, 4, 5);
        told(x, x.greet(3), 3, 4, 4, 5, 4);
    }

    private static void asUnknown() {
        CHECK.says("Promise 27: UNKNOWN");
        EDGE.refused(Edge.LIVED, Check.UNKNOWN, "as", 2, 0);
        EDGE.refused(Edge.LIVED, Check.UNKNOWN, "as", -1, 0);
        EDGE.refused(FOUR, Check.UNKNOWN, "as", 4, 0);
    }

    private static void asOutside() {
        CHECK.says("Promise 27: OUTSIDE");
        for (int maid = 0; maid < 4; maid++) {
            EDGE.refused(FOUR, Check.OUTSIDE, "as", maid, -1);
            EDGE.refused(FOUR, Check.OUTSIDE, "as", maid, 3);
        }
    }

    private static void asCast() {
        CHECK.says("Promise 27: CAST: she is none");
        int[] kinds = {0, 1, 2, 0};
        for (int maid = 0; maid < 4; maid++) {
            for (int kind = 0; kind < 3; kind++) {
                if (kind <= kinds[maid]) {
                    EDGE.tells(FOUR, 1, "as", maid, kind);
                } else {
                    EDGE.refused(FOUR, Check.CAST, "as", maid, kind);
                }
            }
        }
    }

    private static void asInOrder() {
        CHECK.says("Promise 27: UNKNOWN; OUTSIDE; CAST, in this order");
        EDGE.refused(FOUR, Check.UNKNOWN, "as", 4, 3);
        EDGE.refused(FOUR, Check.UNKNOWN, "as", -1, -1);
        EDGE.refused(FOUR, Check.OUTSIDE, "as", 0, 3);
        EDGE.refused(FOUR, Check.OUTSIDE, "as", 3, 3);
    }

    private static void traceWraps() {
        CHECK.says("TRACE (an int that wraps, 0 at first, becomes 31 times it and the number)");
        ThreeRefusals x = Check.valley("y13;m1;p2;h3;123");
        int[] known = {4, 128, 3972, 123136, 3817220, 118333824, -626618748, 2049655296, -885195260};
        for (int trace : known) {
            x.greet(0);
            CHECK.due("by fours", x.trace(), trace);
        }
        int want = known[known.length - 1];
        boolean below = false;
        boolean above = false;
        for (int k = 0; k < 100; k++) {
            x.tell(k % 3);
            want = k % 3 == 0 ? traced(want, 1)
                : k % 3 == 1 ? traced(want, 2, 1) : traced(want, 3, 2, 1, 1);
            CHECK.due("on and on", x.trace(), want);
            below |= want < 0;
            above |= want > 0;
        }
        CHECK.due("it wrapped", below && above ? 1 : 0, 1);
        CHECK.says("Terms 1: all anew, but for TRACE");
        Check.settle(x, "y11;m1;1");
        CHECK.due("a new valley", x.trace(), want);
        Check.settle(x, "y11;m1");
        CHECK.due("no text", x.trace(), want);
        x.tell(0);
        CHECK.due("on and on", x.trace(), traced(want, 1));
    }

    private static void manyOutside() {
        CHECK.says("Promise 30: OUTSIDE");
        for (Edge.Scene scene : new Edge.Scene[] {Edge.NEW, Edge.LIVED, Edge.FULL}) {
            EDGE.refused(scene, Check.OUTSIDE, "many", -1);
            EDGE.refused(scene, Check.OUTSIDE, "many", 5);
        }
    }

    private static void many(Edge.Scene scene, int... want) {
        for (int what = 0; what < 5; what++) {
            EDGE.tells(scene, want[what], "many", what);
        }
    }

    private static void manyOfEnds() {
        CHECK.says("Promise 30: 0 SUITORS, 1 MAIDS, 2 OFFERS, 3 READINGS, 4 the LAW");
        many(Edge.NEW, 0, 0, 0, 0, 0);
        many(Edge.LIVED, 3, 2, 3, 2, 2);
        many(Edge.FULL, 3, 2, 24, 8, 2);
        many(x -> Check.settle(x, "y11;m0;0"), 1, 1, 0, 0, 3);
        many(x -> {
            Check.settle(x, "y64;m000000;m000000;m000000;m000000;0000;0000;0000;0000;0000;0000");
            x.law(9);
        }, 6, 4, 0, 0, 9);
        many(x -> {
            Edge.LIVED.play(x);
            x.law(0);
        }, 3, 2, 3, 2, 0);
    }
}
