/** What the tests of the project share: the count of wrong answers, and valleys by their texts. */
final class Check {
    static final int UNKNOWN = -1, OUTSIDE = -2, STATE = -3, FULL = -4, NONE = -9;
    static final int NULL = -11, CAST = -12, INDEX = -13, SIZE = -14;
    static final long LOST = Long.MIN_VALUE;

    /** An heiress, a maid and a proud one, four suitors. */
    static final String THREE = "y43;h2457;m9431;p8602;183;274;369;518";
    /** An heiress and a maid, three suitors. */
    static final String TWO = "y32;h255;m943;18;27;36";

    private int wrong;
    private int asked;

    void due(String call, long got, long want) {
        asked++;
        if (got != want) {
            wrong++;
            if (wrong <= 50) {
                System.out.println(call + " answered " + got + ", due is " + want);
            }
        }
    }

    /** Ends the test: with exit code 1 if an answer was not as due. */
    void end() {
        System.out.println(asked + " answers, " + wrong + " not as due");
        if (wrong != 0) {
            System.exit(1);
        }
    }

    /** Puts a text on sheet 3 and makes a valley by it. */
    static int settle(ThreeRefusals x, String text) {
        x.sheet(3, 2, text.length());
        for (int i = 0; i < text.length(); i++) {
            x.put(3, i, text.charAt(i));
        }
        return x.valley(3, 2, 0, text.length());
    }

    static ThreeRefusals valley(String text) {
        ThreeRefusals x = new ThreeRefusals();
        int maids = settle(x, text);
        if (maids < 0) {
            throw new IllegalStateException("no text: " + text + ": " + maids);
        }
        return x;
    }

    /** Puts numbers on a sheet of ints. */
    static void write(ThreeRefusals x, int sheet, int... numbers) {
        x.sheet(sheet, 2, numbers.length);
        for (int i = 0; i < numbers.length; i++) {
            x.put(sheet, i, numbers[i]);
        }
    }

    /** All that an object tells without changing anything but fault(), which is told first. */
    static String picture(ThreeRefusals x) {
        StringBuilder all = new StringBuilder();
        all.append(x.trace()).append(' ').append(x.pairs());
        for (int what = 0; what < 5; what++) {
            all.append(' ').append(x.many(what));
        }
        for (int maid = 0; maid < x.many(1); maid++) {
            for (int what = 0; what < 4; what++) {
                all.append(' ').append(x.ofMaid(maid, what));
            }
            all.append(' ').append(x.kinds(maid));
            for (int suitor = 0; suitor < x.many(0); suitor++) {
                all.append(' ').append(x.likes(maid, suitor, 0)).append(x.likes(maid, suitor, 1));
                all.append(x.learnt(maid, suitor, 0)).append(x.learnt(maid, suitor, 1));
            }
        }
        for (int offer = 0; offer < x.many(2); offer++) {
            all.append(' ').append(x.comes(offer));
        }
        for (int sheet = 0; sheet < 4; sheet++) {
            all.append('|');
            for (int lane = 0; lane < 3; lane++) {
                for (int i = 0; i < 101; i++) {
                    all.append(x.cell(sheet, i, lane)).append(' ');
                }
            }
        }
        return all.toString();
    }
}
