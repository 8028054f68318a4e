/** What the tests of the project share: the count of wrong answers, and valleys by their texts. */
final class Check {
    static final int UNKNOWN = -1, OUTSIDE = -2, STATE = -3, FULL = -4, NONE = -9;
    static final int NULL = -11, CAST = -12, INDEX = -13, SIZE = -14;
    static final long LOST = Long.MIN_VALUE;

    /** An heiress, a maid and a proud one, four suitors. */
    static final String THREE = "y43;h2457;m9431;p8602;183;274;369;518";
    /** An heiress and a maid, three suitors. */
    static final String TWO = "y32;h255;m943;18;27;36";

    private int wrong;
    private int asked;
    private String sentence = "";

    /** The sentence of the document that the answers from now on belong to. */
    void says(String now) {
        sentence = now + ": ";
    }

    void due(String call, long got, long want) {
        asked++;
        if (got != want) {
            wrong(call + " answered " + got + ", due is " + want);
        }
    }

    void same(String what, String got, String want) {
        asked++;
        if (!got.equals(want)) {
            wrong(what + ": it is " + got + ", due is " + want);
        }
    }

    private void wrong(String how) {
        wrong++;
        if (wrong <= 50) {
            System.out.println(sentence + how);
        }
    }

    /** Ends the test: with exit code 1 if an answer was not as due. */
    void end() {
        System.out.println(asked + " answers, " + wrong + " not as due");
        if (wrong != 0) {
            System.exit(1);
        }
    }

    /** Puts a text on sheet 3 and makes a valley by it. */
    static int settle(ThreeRefusals x, String text) {
        x.sheet(3, 2, text.length());
        for (int i = 0; i < text.length(); i++) {
            x.put(3, i, text.charAt(i));
        }
        return x.valley(3, 2, 0, text.length());
    }

    static ThreeRefusals valley(String text) {
        ThreeRefusals x = new ThreeRefusals();
        int maids = settle(x, text);
        if (maids < 0) {
            throw new IllegalStateException("no text: " + text + ": " + maids);
        }
        return x;
    }

    /** Puts numbers on a sheet of ints. */
    static void write(ThreeRefusals x, int sheet, int... numbers) {
        write(x, sheet, 2, numbers);
    }

    /** Puts numbers on a sheet of a lane. */
    static void write(ThreeRefusals x, int sheet, int lane, int[] numbers) {
        x.sheet(sheet, lane, numbers.length);
        for (int i = 0; i < numbers.length; i++) {
            x.put(sheet, i, numbers[i]);
        }
    }

    static int[] codes(String text) {
        return text.chars().toArray();
    }

    /**
     * All that an object tells without changing anything but fault(), which is told first. It takes
     * no more calls than it must, as an object is good for 512.
     */
    static String picture(ThreeRefusals x) {
        StringBuilder all = new StringBuilder();
        all.append(x.trace()).append(' ').append(x.pairs());
        for (int what = 0; what < 5; what++) {
            all.append(' ').append(x.many(what));
        }
        int maids = x.many(1);
        int suitors = x.many(0);
        for (int maid = 0; maid < maids; maid++) {
            for (int what = 0; what < 4; what++) {
                all.append(' ').append(x.ofMaid(maid, what));
            }
            all.append(' ').append(x.kinds(maid));
            for (int suitor = 0; suitor < suitors; suitor++) {
                all.append(' ').append(x.likes(maid, suitor, 0)).append(x.likes(maid, suitor, 1));
                all.append(x.learnt(maid, suitor, 0)).append(x.learnt(maid, suitor, 1));
            }
        }
        int offers = x.many(2);
        for (int offer = 0; offer < offers; offer++) {
            all.append(' ').append(x.comes(offer));
        }
        for (int sheet = 0; sheet < 4; sheet++) {
            all.append(" | ").append(pictureOfSheet(x, sheet));
        }
        return all.toString();
    }

    private static String pictureOfSheet(ThreeRefusals x, int sheet) {
        for (int lane = 0; lane < 3; lane++) {
            long first = x.cell(sheet, 0, lane);
            int fault = x.fault();
            if (fault != 2) {
                StringBuilder row = new StringBuilder("lane " + lane + " fault " + fault + ":");
                long cell = first;
                for (int i = 1; cell != LOST && i <= 101; i++) {
                    row.append(' ').append(cell);
                    cell = x.cell(sheet, i, lane);
                }
                return row.toString();
            }
        }
        return "no lane";
    }
}
