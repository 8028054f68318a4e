/** Promise 1: what each call answers ahead of any VALLEY and of any SHEET. */
public final class EdgesOfNewTest {
    private static final Check CHECK = new Check();
    private static final Edge EDGE = new Edge(CHECK);

    public static void main(String[] args) {
        noValley(Edge.NEW);
        noValley(Edge.SHEETS);
        noValley(x -> Check.settle(x, "y11;p7;"));
        noValleyByASheet();
        sheetsHaveNothing(Edge.NEW);
        sheetsHaveNothing(x -> {
            Check.settle(x, Check.TWO);
            x.lose(3);
        });
        firstSheet();
        nothingHasBeenToldYet();
        objectsAreApart();
        CHECK.end();
    }

    private static void noValley(Edge.Scene scene) {
        noSuitors(scene);
        noMaids(scene);
        noOffers(scene);
        noReadings(scene);
        noValleyIsAState(scene);
        refusalsAheadOfState(scene);
        manyAreNone(scene);
    }

    private static void noSuitors(Edge.Scene scene) {
        CHECK.says("Promise 1: no SUITORS");
        EDGE.refused(scene, Check.UNKNOWN, "firm", 0);
        EDGE.refused(scene, Check.UNKNOWN, "firm", 9);
        EDGE.refused(scene, Check.UNKNOWN, "firm", -2);
        EDGE.refused(scene, Check.UNKNOWN, "offer", 0, 0);
        EDGE.refused(scene, Check.UNKNOWN, "sent", 0, 0);
    }

    private static void noMaids(Edge.Scene scene) {
        CHECK.says("Promise 1: no MAIDS");
        EDGE.refused(scene, Check.UNKNOWN, "likes", 0, 0, 0);
        EDGE.refused(scene, Check.UNKNOWN, "likes", 0, 0, 2);
        EDGE.refused(scene, Check.UNKNOWN, "like", 0, 0, 0, 0);
        EDGE.refused(scene, Check.UNKNOWN, "like", 0, 0, 1, 10);
        for (int what = -1; what <= 4; what++) {
            EDGE.refused(scene, Check.UNKNOWN, "ofMaid", 0, what);
        }
        EDGE.refused(scene, Check.UNKNOWN, "asked", 0, 2, 2, 0, 1, 0);
        EDGE.refused(scene, Check.UNKNOWN, "asked", 0, 3, 3, -1, -1, 2);
        EDGE.refused(scene, Check.UNKNOWN, "kinds", 0);
        EDGE.refused(scene, Check.UNKNOWN, "tell", 0);
        EDGE.refused(scene, Check.UNKNOWN, "greet", 0);
        EDGE.refused(scene, Check.UNKNOWN, "as", 0, 0);
        EDGE.refused(scene, Check.UNKNOWN, "as", 0, 3);
        EDGE.lost(scene, 0, "worth", 0, 1, 0, 0);
        EDGE.lost(scene, 0, "worth", 0, 1, 0, 1);
    }

    private static void noOffers(Edge.Scene scene) {
        CHECK.says("Promise 1: no OFFERS");
        EDGE.refused(scene, Check.UNKNOWN, "comes", 0);
        EDGE.refused(scene, Check.UNKNOWN, "comes", -1);
        EDGE.tells(scene, 0, "undo", 0);
        EDGE.refused(scene, Check.OUTSIDE, "undo", 1);
        EDGE.refused(scene, Check.OUTSIDE, "undo", -1);
    }

    private static void noReadings(Edge.Scene scene) {
        CHECK.says("Promise 1: no READINGS");
        EDGE.refused(scene, Check.UNKNOWN, "reading", 0, 0, 0, 1);
        EDGE.refused(scene, Check.UNKNOWN, "reading", 0, 0, 10, 0);
        EDGE.refused(scene, Check.UNKNOWN, "learnt", 0, 0, 0);
        EDGE.refused(scene, Check.UNKNOWN, "learnt", 0, 0, 2);
        EDGE.tells(scene, 0, "back", 0);
        EDGE.refused(scene, Check.OUTSIDE, "back", 1);
        EDGE.refused(scene, Check.OUTSIDE, "back", -1);
    }

    private static void noValleyIsAState(Edge.Scene scene) {
        CHECK.says("STATE: there is no VALLEY");
        for (int law = 0; law <= 9; law++) {
            EDGE.refused(scene, Check.STATE, "law", law);
        }
        EDGE.refused(scene, Check.STATE, "firm", -1);
        EDGE.refused(scene, Check.STATE, "brought");
        EDGE.lost(scene, 0, "pairs");
    }

    private static void refusalsAheadOfState(Edge.Scene scene) {
        CHECK.says("Promise 6: OUTSIDE. STATE, in this order");
        EDGE.refused(scene, Check.OUTSIDE, "law", 10);
        EDGE.refused(scene, Check.OUTSIDE, "law", -1);
        CHECK.says("Promise 13: UNKNOWN; STATE, in this order");
        EDGE.refused(scene, Check.UNKNOWN, "firm", 0);
        EDGE.refused(scene, Check.UNKNOWN, "firm", -2);
    }

    private static void manyAreNone(Edge.Scene scene) {
        CHECK.says("Promise 30: 0 all without a VALLEY");
        for (int what = 0; what <= 4; what++) {
            EDGE.tells(scene, 0, "many", what);
        }
        EDGE.refused(scene, Check.OUTSIDE, "many", 5);
        EDGE.refused(scene, Check.OUTSIDE, "many", -1);
    }

    private static void noValleyByASheet() {
        CHECK.says("Promise 1: no VALLEY, though sheets have cells");
        EDGE.refused(Edge.SHEETS, Check.UNKNOWN, "asked", 0, 2, 2, 0, 8, 0);
        EDGE.refused(Edge.SHEETS, -107, "valley", 0, 0, 0, 7);
        EDGE.taken(Edge.SHEETS, 1, "valley", 0, 0, 0, 8);
    }

    private static void sheetsHaveNothing(Edge.Scene scene) {
        CHECK.says("Promise 1: SHEETS have nothing");
        for (int k = 0; k < 4; k++) {
            EDGE.tells(scene, 0, "lose", k);
            EDGE.refused(scene, Check.NULL, "put", k, 0, 0);
            EDGE.refused(scene, Check.NULL, "put", k, -1, 0);
            for (int lane = 0; lane < 3; lane++) {
                EDGE.lost(scene, 1, "cell", k, 0, lane);
                EDGE.lost(scene, 1, "cell", k, -1, lane);
                EDGE.refused(scene, Check.NULL, "valley", k, lane, 0, 0);
                EDGE.refused(scene, Check.NULL, "valley", k, lane, 0, -1);
                EDGE.refused(scene, Check.NULL, "valley", k, lane, -1, 1);
            }
            for (int other = 0; other < 4; other++) {
                EDGE.refused(scene, Check.NULL, "copy", k, 0, other, 0, 0);
            }
        }
        EDGE.refused(scene, Check.UNKNOWN, "lose", 4);
        EDGE.refused(scene, Check.UNKNOWN, "put", 4, 0, 0);
        EDGE.lost(scene, 0, "cell", 4, 0, 0);
        EDGE.lost(scene, 0, "cell", 0, 0, 3);
        EDGE.refused(scene, Check.UNKNOWN, "valley", 4, 0, 0, 0);
        EDGE.refused(scene, Check.OUTSIDE, "valley", 0, 3, 0, 0);
        EDGE.refused(scene, Check.UNKNOWN, "copy", 0, 0, 4, 0, 0);
        EDGE.refused(scene, Check.UNKNOWN, "copy", 4, 0, 0, 0, 0);
    }

    private static void firstSheet() {
        CHECK.says("Promise 20: a SHEET gets a new row, ahead of any VALLEY");
        EDGE.taken(Edge.NEW, 1, "sheet", 0, 0, 0);
        EDGE.taken(Edge.NEW, 1, "sheet", 3, 2, 100);
        EDGE.refused(Edge.NEW, Check.UNKNOWN, "sheet", 4, 0, 0);
        EDGE.refused(Edge.NEW, Check.OUTSIDE, "sheet", 0, 3, 0);
        EDGE.refused(Edge.NEW, Check.OUTSIDE, "sheet", 0, 0, 101);
        EDGE.refused(Edge.NEW, Check.SIZE, "sheet", 0, 0, -1);
    }

    private static void nothingHasBeenToldYet() {
        CHECK.says("Terms 6: TRACE, 0 at first");
        CHECK.due("trace()", new ThreeRefusals().trace(), 0);
        CHECK.says("Promise 29: 0 ahead of any");
        CHECK.due("fault()", new ThreeRefusals().fault(), 0);
        ThreeRefusals x = new ThreeRefusals();
        x.lose(0);
        x.tell(0);
        x.worth(0, 1, 0, 0);
        CHECK.due("fault() behind calls that name none", x.fault(), 0);
    }

    private static void objectsAreApart() {
        CHECK.says("Promise 1: a new object, though another one has lived");
        ThreeRefusals other = new ThreeRefusals();
        Edge.FULL.play(other);
        ThreeRefusals x = new ThreeRefusals();
        other.as(1, 2);
        CHECK.due("fault()", x.fault(), 0);
        CHECK.same("it looks as new", Check.picture(x), "0 " + Check.LOST + " 0 0 0 0 0"
            + " | lane 0 fault 1: | lane 0 fault 1: | lane 0 fault 1: | lane 0 fault 1:");
    }
}
