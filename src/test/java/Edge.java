/**
 * Calls that are refused, or come to a fault, in a scene: what they answer, what fault() tells behind
 * them, and that they change nothing: the object looks like a twin that was not called.
 */
final class Edge {
    /** What has been called ahead. */
    interface Scene {
        void play(ThreeRefusals x);
    }

    /** Sheets 0 (bytes, a text), 1 (shorts), 2 (ints); sheet 3 has nothing; there is no valley. */
    static final Scene SHEETS = x -> {
        Check.write(x, 0, 0, Check.codes("y11;p7;4"));
        Check.write(x, 1, 1, new int[] {5, 6, 7});
        Check.write(x, 2, 2, new int[] {0, 1, 2, 0, 1, 2, 0, 1, 2, 3, -1});
    };
    /** Three suitors, an heiress and a maid; offers, readings, a law of its own; the sheets. */
    static final Scene LIVED = x -> {
        Check.settle(x, Check.TWO);
        x.lose(3);
        SHEETS.play(x);
        x.law(2);
        x.offer(0, 0);
        x.offer(1, 1);
        x.offer(2, 0);
        x.reading(0, 1, 1, true);
        x.reading(1, 2, 0, false);
        x.tell(0);
    };
    /** The same with as many offers and readings as there may be. */
    static final Scene FULL = x -> {
        LIVED.play(x);
        for (int k = 3; k < 24; k++) {
            x.offer(k % 3, k % 2);
        }
        for (int k = 2; k < 8; k++) {
            x.reading(k % 2, k % 3, 9, false);
        }
    };
    static final Scene NEW = x -> { };

    private final Check check;

    Edge(Check check) {
        this.check = check;
    }

    /** Such an object, whose latest fault is SIZE (ahead 0), or another one (ahead 1). */
    private static ThreeRefusals made(Scene scene, int ahead) {
        ThreeRefusals x = new ThreeRefusals();
        scene.play(x);
        if (ahead == 0) {
            x.sheet(0, 0, -1);
        } else {
            x.put(3, -1, 0);
        }
        return x;
    }

    /** It answers so: a refusal, or -10 less a fault; -100 and below: a text is not taken. */
    void refused(Scene scene, long want, String call, int... numbers) {
        boolean faulty = want <= Check.NULL && want >= Check.SIZE;
        unchanged(scene, want, faulty ? (int) (-10 - want) : 0, call, numbers);
    }

    /** It answers LOST, of such a fault (0: it is refused). */
    void lost(Scene scene, int fault, String call, int... numbers) {
        unchanged(scene, Check.LOST, fault, call, numbers);
    }

    /** It answers so, which is no refusal, and yet it changes nothing but fault(), if it names one. */
    void tells(Scene scene, long want, String call, int... numbers) {
        unchanged(scene, want, 0, call, numbers);
    }

    private void unchanged(Scene scene, long want, int fault, String call, int... numbers) {
        String told = Calls.told(call, numbers);
        // Two faults ahead, so that a fault() that stays is known from one that is made.
        for (int ahead = 0; ahead < 2; ahead++) {
            ThreeRefusals x = made(scene, ahead);
            int faultAhead = x.fault();
            check.due("a fault ahead", faultAhead > 0 && faultAhead < 4 ? 1 : 0, ahead);
            check.due(told, Calls.answer(x, call, numbers), want);
            int faultDue = Calls.namesFaults(call) ? fault : faultAhead;
            check.due("fault() behind " + told, x.fault(), faultDue);
            check.same("all is as it was behind " + told, Check.picture(x),
                Check.picture(made(scene, ahead)));
        }
    }

    /** It answers so, and is no refusal. */
    void taken(Scene scene, long want, String call, int... numbers) {
        for (int ahead = 0; ahead < 2; ahead++) {
            ThreeRefusals x = made(scene, ahead);
            int faultDue = Calls.namesFaults(call) ? 0 : x.fault();
            String told = Calls.told(call, numbers);
            check.due(told, Calls.answer(x, call, numbers), want);
            check.due("fault() behind " + told, x.fault(), faultDue);
        }
    }
}
