/** Promises 25 to 28 and 30: tell, greet, as, trace, many. */
public final class PartsTest {
    private static final Check CHECK = new Check();
    /** A maid, a proud one, an heiress, another proud one. */
    private static final String FOUR = "y14;m1;p2;h3;p4;1234";

    public static void main(String[] args) {
        tell();
        greet();
        as();
        traceWraps();
        many();
        CHECK.end();
    }

    private static int marked(int trace, int... bodies) {
        int after = trace;
        for (int body : bodies) {
            after = 31 * after + body;
        }
        return after;
    }

    private static void tell() {
        ThreeRefusals x = Check.valley(FOUR);
        CHECK.due("a maid", x.tell(0), 0);
        CHECK.due("trace", x.trace(), 1);
        CHECK.due("a proud one", x.tell(1), 101);
        CHECK.due("trace", x.trace(), marked(1, 2, 1));
        CHECK.due("an heiress", x.tell(2), 104);
        CHECK.due("trace", x.trace(), marked(1, 2, 1, 3, 2, 1, 1));
        CHECK.due("another proud one", x.tell(3), 103);
        int trace = x.trace();
        CHECK.due("no maid", x.tell(4), Check.UNKNOWN);
        CHECK.due("no maid", x.tell(-1), Check.UNKNOWN);
        CHECK.due("trace stays", x.trace(), trace);
    }

    private static void greet() {
        ThreeRefusals x = Check.valley(FOUR);
        CHECK.due("a maid", x.greet(0), 0);
        CHECK.due("trace", x.trace(), 4);
        CHECK.due("a proud one", x.greet(1), 1);
        CHECK.due("trace", x.trace(), marked(4, 4));
        CHECK.due("an heiress", x.greet(2), 70);
        CHECK.due("trace", x.trace(), marked(4, 4, 5));
        CHECK.due("another proud one", x.greet(3), 3);
        int trace = x.trace();
        CHECK.due("no maid", x.greet(4), Check.UNKNOWN);
        CHECK.due("no maid", x.greet(-1), Check.UNKNOWN);
        CHECK.due("trace stays", x.trace(), trace);
    }

    private static void as() {
        ThreeRefusals x = Check.valley(FOUR);
        for (int maid = 0; maid < 4; maid++) {
            int own = x.ofMaid(maid, 0);
            for (int kind = 0; kind < 3; kind++) {
                int got = x.as(maid, kind);
                CHECK.due("as(" + maid + ", " + kind + ")", got, kind <= own ? 1 : Check.CAST);
                CHECK.due("fault()", x.fault(), kind <= own ? 0 : 2);
            }
        }
        x.as(0, 2);
        CHECK.due("kind 3", x.as(0, 3), Check.OUTSIDE);
        CHECK.due("fault()", x.fault(), 0);
        x.as(0, 2);
        CHECK.due("kind -1", x.as(0, -1), Check.OUTSIDE);
        CHECK.due("fault()", x.fault(), 0);
        x.as(0, 2);
        CHECK.due("no maid", x.as(4, 3), Check.UNKNOWN);
        CHECK.due("fault()", x.fault(), 0);
        CHECK.due("no maid", x.as(-1, 0), Check.UNKNOWN);
        CHECK.due("no trace of it", x.trace(), 0);
    }

    private static void traceWraps() {
        ThreeRefusals x = Check.valley(FOUR);
        int want = 0;
        for (int k = 0; k < 100; k++) {
            x.tell(2);
            want = marked(want, 3, 2, 1, 1);
            CHECK.due("trace", x.trace(), want);
        }
        CHECK.due("an heiress's greeting", x.greet(2), 70);
        CHECK.due("trace", x.trace(), marked(want, 5));
        CHECK.due("a new text", Check.settle(x, "y11;m1;1"), 1);
        CHECK.due("trace stays", x.trace(), marked(want, 5));
    }

    private static void many() {
        ThreeRefusals x = Check.valley(FOUR);
        x.offer(0, 0);
        x.offer(0, 1);
        x.reading(0, 0, 1, true);
        x.reading(0, 0, 1, true);
        x.reading(0, 0, 1, true);
        x.law(7);
        int[] want = {1, 4, 2, 3, 7};
        for (int what = 0; what < 5; what++) {
            CHECK.due("many(" + what + ")", x.many(what), want[what]);
        }
        CHECK.due("many(5)", x.many(5), Check.OUTSIDE);
        CHECK.due("many(-1)", x.many(-1), Check.OUTSIDE);
        CHECK.due("many(far off)", x.many(Integer.MIN_VALUE), Check.OUTSIDE);
    }
}
