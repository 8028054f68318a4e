import java.util.ArrayList;
import java.util.List;
import java.util.regex.Matcher;
import java.util.regex.Pattern;

/**
 * The document once more, by other means and without thought of speed: texts by patterns, offers
 * gone through anew at each call, matches and rows of offers one by one, worth by all ways of
 * choosing, sheets and kinds by the machine's own arrays, casts and faults.
 */
final class Naive {
    private static final int UNKNOWN = -1, OUTSIDE = -2, STATE = -3, FULL = -4, NONE = -9;
    private static final long LOST = Long.MIN_VALUE;

    private interface Lent {
        int number();

        default int greeting(Naive in) {
            in.mark(4);
            return number();
        }
    }

    private static class Maid implements Lent {
        final int number;

        Maid(int number) {
            this.number = number;
        }

        public int number() {
            return number;
        }

        int mind(int refused) {
            return 5;
        }

        int telling(Naive in) {
            return plainTelling(in);
        }

        final int plainTelling(Naive in) {
            in.mark(1);
            return number;
        }
    }

    private static class Proud extends Maid {
        Proud(int number) {
            super(number);
        }

        @Override int mind(int refused) {
            return 7;
        }

        @Override int telling(Naive in) {
            in.mark(2);
            return super.telling(in) + 100;
        }
    }

    private static final class Heiress extends Proud {
        Heiress(int number) {
            super(number);
        }

        @Override int mind(int refused) {
            return 3 + refused;
        }

        @Override int telling(Naive in) {
            in.mark(3);
            int proud = super.telling(in);
            return proud + plainTelling(in);
        }

        @Override public int greeting(Naive in) {
            in.mark(5);
            return 70;
        }
    }

    private record Seen(int maid, int suitor, int refused, boolean took) { }

    private record Went(List<Integer> outcomes, int[] refused, int[] husband, int[] bride) { }

    private int suitors, law, trace, fault;
    private final List<Maid> maids = new ArrayList<>();
    private int[][] hers = {}, his = {};
    private final List<int[]> offers = new ArrayList<>();
    private final List<Seen> seen = new ArrayList<>();
    private final Object[] sheets = new Object[4];

    void mark(int body) {
        trace = 31 * trace + body;
    }

    private boolean noMaid(int maid) {
        return maid < 0 || maid >= maids.size();
    }

    private boolean noSuitor(int suitor) {
        return suitor < 0 || suitor >= suitors;
    }

    private static boolean not(int v, int least, int greatest) {
        return v < least || v > greatest;
    }

    /** Cells as the machine takes them, with its faults. */
    private int[] taken(int sheet, int lane, int i, int n) {
        int[] ints = new int[0];
        switch (lane) {
            case 0: {
                byte[] from = (byte[]) sheets[sheet];
                int known = from.length;
                byte[] to = new byte[n];
                System.arraycopy(from, i, to, 0, n);
                ints = new int[n];
                for (int k = 0; k < n; k++) {
                    ints[k] = to[k];
                }
                return known < 0 ? null : ints;
            }
            case 1: {
                short[] from = (short[]) sheets[sheet];
                int known = from.length;
                short[] to = new short[n];
                System.arraycopy(from, i, to, 0, n);
                ints = new int[n];
                for (int k = 0; k < n; k++) {
                    ints[k] = to[k];
                }
                return known < 0 ? null : ints;
            }
            default: {
                int[] from = (int[]) sheets[sheet];
                int known = from.length;
                ints = new int[n];
                System.arraycopy(from, i, ints, 0, n);
                return known < 0 ? null : ints;
            }
        }
    }

    private int faulted(RuntimeException of) {
        if (of instanceof NullPointerException) {
            fault = 1;
        } else if (of instanceof ClassCastException || of instanceof ArrayStoreException) {
            fault = 2;
        } else if (of instanceof IndexOutOfBoundsException) {
            fault = 3;
        } else if (of instanceof NegativeArraySizeException) {
            fault = 4;
        } else {
            throw of;
        }
        return -10 - fault;
    }

    int valley(int sheet, int lane, int i, int n) {
        fault = 0;
        if (not(sheet, 0, 3)) {
            return UNKNOWN;
        }
        if (not(lane, 0, 2)) {
            return OUTSIDE;
        }
        int[] codes;
        try {
            codes = taken(sheet, lane, i, Math.min(n, 1000));
        } catch (RuntimeException e) {
            return faulted(e);
        }
        StringBuilder text = new StringBuilder();
        for (int code : codes) {
            text.append(code < 0 || code > 126 ? '#' : (char) code);
        }
        int place = firstFault(text.toString());
        if (place >= 0) {
            return -100 - place;
        }
        settle(text.toString());
        return maids.size();
    }

    private static int firstFault(String text) {
        for (int n = 0; n <= text.length(); n++) {
            boolean goesOn = false;
            boolean whole = false;
            for (int s = 1; s <= 6; s++) {
                for (int m = 1; m <= 4; m++) {
                    Matcher by = Pattern.compile("y" + s + m + "(;[mph][0-9]{" + s + "}){" + m
                        + "}(;[0-9]{" + m + "}){" + s + "}").matcher(text.substring(0, n));
                    boolean is = by.matches();
                    whole |= is;
                    goesOn |= is || by.hitEnd();
                }
            }
            if (!goesOn) {
                return n - 1;
            }
            if (n == text.length()) {
                return whole ? -1 : n;
            }
        }
        throw new IllegalStateException();
    }

    private void settle(String text) {
        String[] parts = text.split(";");
        suitors = parts[0].charAt(1) - '0';
        int many = parts[0].charAt(2) - '0';
        law = 3;
        maids.clear();
        offers.clear();
        seen.clear();
        hers = new int[many][suitors];
        his = new int[many][suitors];
        for (int m = 0; m < many; m++) {
            char letter = parts[1 + m].charAt(0);
            maids.add(letter == 'm' ? new Maid(m) : letter == 'p' ? new Proud(m) : new Heiress(m));
            for (int s = 0; s < suitors; s++) {
                hers[m][s] = parts[1 + m].charAt(1 + s) - '0';
                his[m][s] = parts[1 + many + s].charAt(m) - '0';
            }
        }
    }

    int likes(int maid, int suitor, int what) {
        if (noMaid(maid) || noSuitor(suitor)) {
            return UNKNOWN;
        }
        return not(what, 0, 1) ? OUTSIDE : (what == 0 ? hers : his)[maid][suitor];
    }

    int like(int maid, int suitor, int what, int v) {
        if (noMaid(maid) || noSuitor(suitor)) {
            return UNKNOWN;
        }
        if (not(what, 0, 1) || not(v, 0, 9)) {
            return OUTSIDE;
        }
        int was = likes(maid, suitor, what);
        (what == 0 ? hers : his)[maid][suitor] = v;
        return was;
    }

    private Went went(List<int[]> rowOfOffers) {
        List<Integer> outcomes = new ArrayList<>();
        int[] refused = new int[maids.size()];
        int[] husband = new int[maids.size()];
        int[] bride = new int[suitors];
        java.util.Arrays.fill(husband, -1);
        java.util.Arrays.fill(bride, -1);
        for (int[] offer : rowOfOffers) {
            int s = offer[0];
            int m = offer[1];
            if (husband[m] >= 0 || bride[s] >= 0) {
                outcomes.add(0);
            } else if (refused[m] == law) {
                outcomes.add(2);
            } else if (hers[m][s] >= maids.get(m).mind(refused[m])) {
                outcomes.add(1);
            } else {
                outcomes.add(3);
                refused[m]++;
            }
            int last = outcomes.get(outcomes.size() - 1);
            if (last == 1 || last == 2) {
                husband[m] = s;
                bride[s] = m;
            }
        }
        return new Went(outcomes, refused, husband, bride);
    }

    int ofMaid(int maid, int what) {
        if (noMaid(maid)) {
            return UNKNOWN;
        }
        Went went = went(offers);
        switch (what) {
            case 0: return kindOf(maid);
            case 1: return maids.get(maid).mind(went.refused[maid]);
            case 2: return went.refused[maid];
            case 3: return went.husband[maid] < 0 ? NONE : went.husband[maid];
            default: return OUTSIDE;
        }
    }

    private int kindOf(int maid) {
        Maid her = maids.get(maid);
        return her instanceof Heiress ? 2 : her instanceof Proud ? 1 : 0;
    }

    int law(int v) {
        if (not(v, 0, 9)) {
            return OUTSIDE;
        }
        if (maids.isEmpty()) {
            return STATE;
        }
        int was = law;
        law = v;
        return was;
    }

    int offer(int suitor, int maid) {
        if (noMaid(maid) || noSuitor(suitor)) {
            return UNKNOWN;
        }
        if (offers.size() == 24) {
            return FULL;
        }
        offers.add(new int[] {suitor, maid});
        return offers.size() - 1;
    }

    int comes(int offer) {
        return not(offer, 0, offers.size() - 1) ? UNKNOWN : went(offers).outcomes.get(offer);
    }

    int undo(int k) {
        if (not(k, 0, offers.size())) {
            return OUTSIDE;
        }
        offers.subList(offers.size() - k, offers.size()).clear();
        return offers.size();
    }

    long pairs() {
        if (maids.isEmpty()) {
            return LOST;
        }
        StringBuilder figures = new StringBuilder();
        for (int bride : went(offers).bride) {
            figures.insert(0, bride < 0 ? 9 : bride);
        }
        return Long.parseLong(figures.toString());
    }

    int asked(int maid, int sheet, int lane, int i, int n, int what) {
        fault = 0;
        if (noMaid(maid) || not(sheet, 0, 3)) {
            return UNKNOWN;
        }
        if (not(lane, 0, 2) || not(what, 0, 1)) {
            return OUTSIDE;
        }
        int[] row;
        try {
            row = taken(sheet, lane, i, Math.min(n, 1000));
        } catch (RuntimeException e) {
            return faulted(e);
        }
        if (not(n, 1, 8)) {
            return OUTSIDE;
        }
        for (int suitor : row) {
            if (noSuitor(suitor)) {
                return UNKNOWN;
            }
        }
        return what == 0 ? bestFrom(maid, row, 0, law) : mindedFrom(maid, row, 0, 0);
    }

    private int bestFrom(int maid, int[] row, int k, int left) {
        if (k == row.length) {
            return 0;
        }
        int taking = hers[maid][row[k]];
        return left == 0 ? taking : Math.max(taking, bestFrom(maid, row, k + 1, left - 1));
    }

    private int mindedFrom(int maid, int[] row, int k, int refused) {
        if (k == row.length) {
            return 0;
        }
        int taking = hers[maid][row[k]];
        boolean takes = refused == law || taking >= maids.get(maid).mind(refused);
        return takes ? taking : mindedFrom(maid, row, k + 1, refused + 1);
    }

    int sent(int maid, int suitor) {
        if (noMaid(maid) || noSuitor(suitor)) {
            return UNKNOWN;
        }
        for (int size = 0; size <= 6; size++) {
            for (int set = 0; set < 1 << suitors; set++) {
                if (Integer.bitCount(set) != size || (set & 1 << suitor) != 0) {
                    continue;
                }
                List<int[]> row = new ArrayList<>();
                for (int s = 0; s < suitors; s++) {
                    if ((set & 1 << s) != 0) {
                        row.add(new int[] {s, maid});
                    }
                }
                row.add(new int[] {suitor, maid});
                Went went = went(row);
                if (went.refused[maid] == size && went.husband[maid] == suitor) {
                    return set;
                }
            }
        }
        return NONE;
    }

    /** Rows of so many figures, each 0 .. base - 1, the first one's changing last. */
    private static List<int[]> rows(int length, int base) {
        List<int[]> all = new ArrayList<>();
        int many = 1;
        for (int k = 0; k < length; k++) {
            many *= base;
        }
        for (int number = 0; number < many; number++) {
            int[] row = new int[length];
            int rest = number;
            for (int k = length - 1; k >= 0; k--) {
                row[k] = rest % base;
                rest /= base;
            }
            all.add(row);
        }
        return all;
    }

    private boolean isFirm(int[] bride) {
        int[] husband = new int[maids.size()];
        java.util.Arrays.fill(husband, -1);
        for (int s = 0; s < suitors; s++) {
            if (bride[s] >= 0) {
                if (husband[bride[s]] >= 0) {
                    return false;
                }
                husband[bride[s]] = s;
            }
        }
        for (int m = 0; m < maids.size(); m++) {
            for (int s = 0; s < suitors; s++) {
                int she = husband[m] < 0 ? -1 : hers[m][husband[m]];
                int he = bride[s] < 0 ? -1 : his[bride[s]][s];
                if (hers[m][s] > she && his[m][s] > he) {
                    return false;
                }
            }
        }
        return true;
    }

    int firm(int suitor) {
        if (suitor != -1 && noSuitor(suitor)) {
            return UNKNOWN;
        }
        if (maids.isEmpty()) {
            return STATE;
        }
        int many = 0;
        int[] first = null;
        for (int[] row : rows(suitors, maids.size() + 1)) {
            int[] bride = row.clone();
            for (int s = 0; s < suitors; s++) {
                bride[s] = row[s] == maids.size() ? -1 : row[s];
            }
            if (isFirm(bride)) {
                many++;
                first = first == null ? bride : first;
            }
        }
        return suitor == -1 ? many : first[suitor] < 0 ? 9 : first[suitor];
    }

    int brought() {
        if (maids.isEmpty()) {
            return STATE;
        }
        int many = 0;
        for (int[] row : rows(suitors, maids.size())) {
            List<int[]> asks = new ArrayList<>();
            for (int s = 0; s < suitors; s++) {
                asks.add(new int[] {s, row[s]});
            }
            many += isFirm(went(asks).bride) ? 1 : 0;
        }
        return many;
    }

    long worth(int maid, int n, int r, int which) {
        if (noMaid(maid) || not(n, 1, 4) || not(r, 0, 3) || not(which, 0, 1)) {
            return LOST;
        }
        // A way of choosing: the least liking that she takes on each day.
        List<int[]> all = rows(n, suitors);
        long most = 0;
        for (int[] way : rows(Math.min(n, r), 11)) {
            long sum = 0;
            for (int[] row : all) {
                sum += byWay(maid, row, way, r);
            }
            most = Math.max(most, sum);
        }
        long rows = all.size();
        for (long d = rows; d > 1; d--) {
            if (most % d == 0 && rows % d == 0) {
                most /= d;
                rows /= d;
            }
        }
        return which == 0 ? most : rows;
    }

    private int byWay(int maid, int[] row, int[] way, int r) {
        for (int day = 0; day < row.length; day++) {
            if (day == r || hers[maid][row[day]] >= way[day]) {
                return hers[maid][row[day]];
            }
        }
        return 0;
    }

    int reading(int maid, int suitor, int refused, boolean took) {
        if (noMaid(maid) || noSuitor(suitor)) {
            return UNKNOWN;
        }
        if (not(refused, 0, 9)) {
            return OUTSIDE;
        }
        if (seen.size() == 8) {
            return FULL;
        }
        seen.add(new Seen(maid, suitor, refused, took));
        return seen.size() - 1;
    }

    int back(int k) {
        if (not(k, 0, seen.size())) {
            return OUTSIDE;
        }
        seen.subList(seen.size() - k, seen.size()).clear();
        return seen.size();
    }

    int learnt(int maid, int suitor, int what) {
        if (noMaid(maid) || noSuitor(suitor)) {
            return UNKNOWN;
        }
        if (not(what, 0, 1)) {
            return OUTSIDE;
        }
        int least = 99;
        int greatest = NONE;
        for (int v = 0; v <= 9; v++) {
            int liking = v;
            boolean all = seen.stream().filter(one -> one.maid == maid && one.suitor == suitor)
                .allMatch(one -> liking >= maids.get(maid).mind(one.refused) == one.took);
            least = all ? Math.min(least, v) : least;
            greatest = all ? v : greatest;
        }
        return greatest == NONE ? NONE : what == 0 ? least : greatest;
    }

    int kinds(int maid) {
        if (noMaid(maid)) {
            return UNKNOWN;
        }
        Maid[] asIf = {new Maid(maid), new Proud(maid), new Heiress(maid)};
        int set = 0;
        for (int kind = 0; kind < 3; kind++) {
            Maid her = asIf[kind];
            boolean all = seen.stream().filter(one -> one.maid == maid)
                .allMatch(one -> hers[maid][one.suitor] >= her.mind(one.refused) == one.took);
            set += all ? 1 << kind : 0;
        }
        return set;
    }

    int sheet(int k, int lane, int n) {
        fault = 0;
        if (not(k, 0, 3)) {
            return UNKNOWN;
        }
        if (not(lane, 0, 2) || n > 100) {
            return OUTSIDE;
        }
        try {
            sheets[k] = lane == 0 ? new byte[n] : lane == 1 ? new short[n] : (Object) new int[n];
        } catch (RuntimeException e) {
            return faulted(e);
        }
        return 1;
    }

    int lose(int k) {
        if (not(k, 0, 3)) {
            return UNKNOWN;
        }
        int had = sheets[k] == null ? 0 : 1;
        sheets[k] = null;
        return had;
    }

    int put(int k, int i, int v) {
        fault = 0;
        if (not(k, 0, 3)) {
            return UNKNOWN;
        }
        try {
            if (sheets[k] instanceof byte[] bytes) {
                bytes[i] = (byte) v;
            } else if (sheets[k] instanceof short[] shorts) {
                shorts[i] = (short) v;
            } else {
                ((int[]) sheets[k])[i] = v;
            }
        } catch (RuntimeException e) {
            return faulted(e);
        }
        return 1;
    }

    long cell(int k, int i, int lane) {
        fault = 0;
        if (not(k, 0, 3) || not(lane, 0, 2)) {
            return LOST;
        }
        try {
            switch (lane) {
                case 0: return ((byte[]) sheets[k])[i];
                case 1: return ((short[]) sheets[k])[i];
                default: return ((int[]) sheets[k])[i];
            }
        } catch (RuntimeException e) {
            faulted(e);
            return LOST;
        }
    }

    int copy(int k, int i, int other, int j, int n) {
        fault = 0;
        if (not(k, 0, 3) || not(other, 0, 3)) {
            return UNKNOWN;
        }
        try {
            System.arraycopy(sheets[k], i, sheets[other], j, n);
        } catch (RuntimeException e) {
            return faulted(e);
        }
        return n;
    }

    int tell(int maid) {
        return noMaid(maid) ? UNKNOWN : maids.get(maid).telling(this);
    }

    int greet(int maid) {
        return noMaid(maid) ? UNKNOWN : maids.get(maid).greeting(this);
    }

    int as(int maid, int kind) {
        fault = 0;
        if (noMaid(maid)) {
            return UNKNOWN;
        }
        if (not(kind, 0, 2)) {
            return OUTSIDE;
        }
        try {
            Maid her = maids.get(maid);
            Maid same = kind == 0 ? her : kind == 1 ? (Proud) her : (Heiress) her;
            return same == her ? 1 : 0;
        } catch (RuntimeException e) {
            return faulted(e);
        }
    }

    int trace() {
        return trace;
    }

    int fault() {
        return fault;
    }

    int many(int what) {
        switch (what) {
            case 0: return suitors;
            case 1: return maids.size();
            case 2: return offers.size();
            case 3: return seen.size();
            case 4: return law;
            default: return OUTSIDE;
        }
    }
}
