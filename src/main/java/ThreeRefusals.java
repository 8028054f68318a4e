import java.util.Arrays;

/**
 * Three refusals and no more: a valley of suitors and maids, told in a text; whoever is asked may
 * refuse as often as the law lets her and must take the one who asks then.
 */
public final class ThreeRefusals {
    public static final int UNKNOWN = -1, OUTSIDE = -2, STATE = -3, FULL = -4, NONE = -9;
    public static final long LOST = Long.MIN_VALUE;

    private static final int NO_FAULT = 0, NULL = 1, CAST = 2, INDEX = 3, SIZE = 4;
    private static final int FAULT_BASE = -10, TEXT_BASE = -100;
    private static final int PAST = 0, TAKES = 1, MUST = 2, REFUSES = 3;
    private static final int PLAIN = 0, PROUD = 1, HEIRESS = 2, KINDS = 3;
    private static final int BYTES = 0, SHORTS = 1, INTS = 2;
    private static final int MOST_SUITORS = 6, MOST_MAIDS = 4, MOST_OFFERS = 24, MOST_READINGS = 8;
    private static final int MOST_SHEETS = 4, MOST_CELLS = 100, MOST_ROW = 8;
    private static final int MOST_LAW = 9, FIRST_LAW = 3, MOST_LIKING = 9;
    private static final int NOBODY = -1, NOBODY_FIGURE = 9;

    private final Valley land = new Valley();
    private final Offers offers = new Offers();
    private final Readings readings = new Readings();
    private final Matches matches = new Matches();
    private final Sheet[] sheets = new Sheet[MOST_SHEETS];
    private final int[] row = new int[MOST_CELLS];
    private int traced;
    private int latestFault;

    public ThreeRefusals() {
        for (int k = 0; k < MOST_SHEETS; k++) {
            sheets[k] = new Sheet();
        }
    }

    // ---- 1 the valley

    public int valley(int sheet, int lane, int i, int n) {
        if (!isSheet(sheet)) {
            return faultless(UNKNOWN);
        }
        if (!isLane(lane)) {
            return faultless(OUTSIDE);
        }
        int fault = sheets[sheet].faultOfCells(lane, i, n);
        if (fault != NO_FAULT) {
            return faulted(fault);
        }
        sheets[sheet].readInto(row, i, n);
        int place = Text.firstFault(row, n);
        if (place != NONE) {
            return faultless(TEXT_BASE - place);
        }
        land.settle(row);
        offers.forget();
        readings.count = 0;
        return faultless(land.maids);
    }

    public int likes(int maid, int suitor, int what) {
        if (!land.hasMaid(maid) || !land.hasSuitor(suitor)) {
            return UNKNOWN;
        }
        if (what != 0 && what != 1) {
            return OUTSIDE;
        }
        return likings(what)[maid][suitor];
    }

    public int like(int maid, int suitor, int what, int v) {
        int was = likes(maid, suitor, what);
        if (was < 0) {
            return was;
        }
        if (v < 0 || v > MOST_LIKING) {
            return OUTSIDE;
        }
        likings(what)[maid][suitor] = v;
        offers.goThrough(land);
        return was;
    }

    public int ofMaid(int maid, int what) {
        if (!land.hasMaid(maid)) {
            return UNKNOWN;
        }
        int refusals = offers.days.refusals[maid];
        int husband = offers.days.husband[maid];
        switch (what) {
            case 0: return land.kind[maid];
            case 1: return Valley.mind(land.kind[maid], refusals);
            case 2: return refusals;
            case 3: return husband == NOBODY ? NONE : husband;
            default: return OUTSIDE;
        }
    }

    public int law(int v) {
        if (v < 0 || v > MOST_LAW) {
            return OUTSIDE;
        }
        if (!land.stands()) {
            return STATE;
        }
        int was = land.refusalsLet;
        land.refusalsLet = v;
        offers.goThrough(land);
        return was;
    }

    // ---- 2 offers

    public int offer(int suitor, int maid) {
        if (!land.hasSuitor(suitor) || !land.hasMaid(maid)) {
            return UNKNOWN;
        }
        if (offers.count >= MOST_OFFERS) {
            return FULL;
        }
        return offers.add(land, suitor, maid);
    }

    public int comes(int offer) {
        if (offer < 0 || offer >= offers.count) {
            return UNKNOWN;
        }
        return offers.outcome[offer];
    }

    public int undo(int k) {
        if (k < 0 || k > offers.count) {
            return OUTSIDE;
        }
        offers.count -= k;
        offers.goThrough(land);
        return offers.count;
    }

    public long pairs() {
        if (!land.stands()) {
            return LOST;
        }
        long number = 0;
        for (int s = land.suitors - 1; s >= 0; s--) {
            number = number * 10 + figure(offers.days.bride[s]);
        }
        return number;
    }

    // ---- 3 one maid

    public int asked(int maid, int sheet, int lane, int i, int n, int what) {
        if (!land.hasMaid(maid) || !isSheet(sheet)) {
            return faultless(UNKNOWN);
        }
        if (!isLane(lane) || (what != 0 && what != 1)) {
            return faultless(OUTSIDE);
        }
        int fault = sheets[sheet].faultOfCells(lane, i, n);
        if (fault != NO_FAULT) {
            return faulted(fault);
        }
        if (n < 1 || n > MOST_ROW) {
            return faultless(OUTSIDE);
        }
        sheets[sheet].readInto(row, i, n);
        if (!land.areSuitors(row, n)) {
            return faultless(UNKNOWN);
        }
        return faultless(what == 0 ? land.best(maid, row, n) : land.minded(maid, row, n));
    }

    public int sent(int maid, int suitor) {
        if (!land.hasMaid(maid) || !land.hasSuitor(suitor)) {
            return UNKNOWN;
        }
        return land.fewestAhead(maid, suitor);
    }

    // ---- 4 matches

    public int firm(int suitor) {
        if (suitor != NOBODY && !land.hasSuitor(suitor)) {
            return UNKNOWN;
        }
        if (!land.stands()) {
            return STATE;
        }
        int found = matches.countFirm(land);
        return suitor == NOBODY ? found : figure(matches.first[suitor]);
    }

    public int brought() {
        if (!land.stands()) {
            return STATE;
        }
        return matches.countBringing(land);
    }

    // ---- 5 worth, what is learnt

    public long worth(int maid, int n, int r, int which) {
        if (!land.hasMaid(maid)) {
            return LOST;
        }
        if (n < 1 || n > 4 || r < 0 || r > 3 || (which != 0 && which != 1)) {
            return LOST;
        }
        int rows = land.rowsOf(n);
        int sum = land.sumOverRows(maid, n, r);
        int shared = greatestDivisor(sum, rows);
        if (shared <= 0) {
            return LOST;
        }
        return which == 0 ? sum / shared : rows / shared;
    }

    public int reading(int maid, int suitor, int refused, boolean took) {
        if (!land.hasMaid(maid) || !land.hasSuitor(suitor)) {
            return UNKNOWN;
        }
        if (refused < 0 || refused > MOST_LAW) {
            return OUTSIDE;
        }
        if (readings.count >= MOST_READINGS) {
            return FULL;
        }
        return readings.add(maid, suitor, refused, took);
    }

    public int back(int k) {
        if (k < 0 || k > readings.count) {
            return OUTSIDE;
        }
        readings.count -= k;
        return readings.count;
    }

    public int learnt(int maid, int suitor, int what) {
        if (!land.hasMaid(maid) || !land.hasSuitor(suitor)) {
            return UNKNOWN;
        }
        if (what != 0 && what != 1) {
            return OUTSIDE;
        }
        return what == 0
            ? readings.leastLiking(land, maid, suitor)
            : readings.greatestLiking(land, maid, suitor);
    }

    public int kinds(int maid) {
        if (!land.hasMaid(maid)) {
            return UNKNOWN;
        }
        return readings.kindsOf(land, maid);
    }

    // ---- 6 sheets, parts

    public int sheet(int k, int lane, int n) {
        if (!isSheet(k)) {
            return faultless(UNKNOWN);
        }
        if (!isLane(lane) || n > MOST_CELLS) {
            return faultless(OUTSIDE);
        }
        if (n < 0) {
            return faulted(SIZE);
        }
        sheets[k].renew(lane, n);
        return faultless(1);
    }

    public int lose(int k) {
        if (!isSheet(k)) {
            return UNKNOWN;
        }
        int had = sheets[k].hasRow ? 1 : 0;
        sheets[k].hasRow = false;
        return had;
    }

    public int put(int k, int i, int v) {
        if (!isSheet(k)) {
            return faultless(UNKNOWN);
        }
        if (!sheets[k].hasRow) {
            return faulted(NULL);
        }
        if (!sheets[k].hasCell(i)) {
            return faulted(INDEX);
        }
        sheets[k].write(i, v);
        return faultless(1);
    }

    public long cell(int k, int i, int lane) {
        if (!isSheet(k) || !isLane(lane)) {
            return lost(NO_FAULT);
        }
        int fault = sheets[k].faultOfRow(lane);
        if (fault != NO_FAULT) {
            return lost(fault);
        }
        if (!sheets[k].hasCell(i)) {
            return lost(INDEX);
        }
        latestFault = NO_FAULT;
        return sheets[k].cells[i];
    }

    public int copy(int k, int i, int other, int j, int n) {
        if (!isSheet(k) || !isSheet(other)) {
            return faultless(UNKNOWN);
        }
        if (!sheets[k].hasRow || !sheets[other].hasRow) {
            return faulted(NULL);
        }
        if (sheets[k].lane != sheets[other].lane) {
            return faulted(CAST);
        }
        if (!sheets[k].hasCells(i, n) || !sheets[other].hasCells(j, n)) {
            return faulted(INDEX);
        }
        System.arraycopy(sheets[k].cells, i, sheets[other].cells, j, n);
        return faultless(n);
    }

    public int tell(int maid) {
        if (!land.hasMaid(maid)) {
            return UNKNOWN;
        }
        switch (land.kind[maid]) {
            case PROUD: return tellAsProud(maid);
            case HEIRESS: return tellAsHeiress(maid);
            default: return tellAsMaid(maid);
        }
    }

    public int greet(int maid) {
        if (!land.hasMaid(maid)) {
            return UNKNOWN;
        }
        return land.kind[maid] == HEIRESS ? greetAsHeiress() : greetAsAnyone(maid);
    }

    public int as(int maid, int kind) {
        if (!land.hasMaid(maid)) {
            return faultless(UNKNOWN);
        }
        if (kind < 0 || kind >= KINDS) {
            return faultless(OUTSIDE);
        }
        // Each kind is one of all the kinds numbered below it, too.
        if (kind > land.kind[maid]) {
            return faulted(CAST);
        }
        return faultless(1);
    }

    public int trace() {
        return traced;
    }

    public int fault() {
        return latestFault;
    }

    public int many(int what) {
        switch (what) {
            case 0: return land.suitors;
            case 1: return land.maids;
            case 2: return offers.count;
            case 3: return readings.count;
            case 4: return land.refusalsLet;
            default: return OUTSIDE;
        }
    }

    // ---- what the calls share

    /** The answer of a call that names faults and came to none. */
    private int faultless(int answer) {
        latestFault = NO_FAULT;
        return answer;
    }

    private int faulted(int fault) {
        latestFault = fault;
        return FAULT_BASE - fault;
    }

    private long lost(int fault) {
        latestFault = fault;
        return LOST;
    }

    private int[][] likings(int what) {
        return what == 0 ? land.hers : land.his;
    }

    private void mark(int body) {
        traced = 31 * traced + body;
    }

    private int tellAsMaid(int maid) {
        mark(1);
        return maid;
    }

    private int tellAsProud(int maid) {
        mark(2);
        return tellAsMaid(maid) + 100;
    }

    private int tellAsHeiress(int maid) {
        mark(3);
        int asProud = tellAsProud(maid);
        return asProud + tellAsMaid(maid);
    }

    private int greetAsAnyone(int maid) {
        mark(4);
        return maid;
    }

    private int greetAsHeiress() {
        mark(5);
        return 70;
    }

    private static boolean isSheet(int k) {
        return k >= 0 && k < MOST_SHEETS;
    }

    private static boolean isLane(int lane) {
        return lane >= BYTES && lane <= INTS;
    }

    private static int figure(int maid) {
        return maid == NOBODY ? NOBODY_FIGURE : maid;
    }

    private static int greatestDivisor(int a, int b) {
        int greater = a;
        int lesser = b;
        // Ints need 45 steps at the most.
        for (int step = 0; step < 50 && lesser > 0; step++) {
            int rest = greater % lesser;
            greater = lesser;
            lesser = rest;
        }
        return greater;
    }

    /** What a text of a valley must be: which code may stand at which place. */
    private static final class Text {
        private static final int HEAD = 3;

        /** The place of the first fault of the n codes of a row; NONE: they are a text. */
        static int firstFault(int[] codes, int n) {
            for (int place = 0; place < HEAD; place++) {
                if (place >= n || !fitsHead(place, codes[place])) {
                    return place;
                }
            }
            return firstFaultBehindHead(codes, n, codes[1] - '0', codes[2] - '0');
        }

        private static int firstFaultBehindHead(int[] codes, int n, int suitors, int maids) {
            int end = suitorPlace(suitors, maids, suitors);
            int part = 0;
            int inPart = 0;
            for (int place = HEAD; place < end; place++) {
                boolean ofMaid = part < maids;
                if (place >= n || !fitsPart(ofMaid, inPart, codes[place])) {
                    return place;
                }
                inPart++;
                if (inPart == (ofMaid ? suitors + 2 : maids + 1)) {
                    part++;
                    inPart = 0;
                }
            }
            return n == end ? NONE : end;
        }

        private static boolean fitsHead(int place, int code) {
            switch (place) {
                case 0: return code == 'y';
                case 1: return code >= '1' && code < '1' + MOST_SUITORS;
                default: return code >= '1' && code < '1' + MOST_MAIDS;
            }
        }

        private static boolean fitsPart(boolean ofMaid, int inPart, int code) {
            if (inPart == 0) {
                return code == ';';
            }
            if (ofMaid && inPart == 1) {
                return kindOf(code) != NONE;
            }
            return code >= '0' && code <= '9';
        }

        static int kindOf(int code) {
            switch (code) {
                case 'm': return PLAIN;
                case 'p': return PROUD;
                case 'h': return HEIRESS;
                default: return NONE;
            }
        }

        /** Where a maid's part begins. */
        static int maidPlace(int suitors, int maid) {
            return HEAD + maid * (suitors + 2);
        }

        /** Where a suitor's part begins, behind those of all the maids. */
        static int suitorPlace(int suitors, int maids, int suitor) {
            return maidPlace(suitors, maids) + suitor * (maids + 1);
        }
    }

    /** Who lives in the valley, and its law. */
    private static final class Valley {
        int suitors;
        int maids;
        int refusalsLet;
        final int[] kind = new int[MOST_MAIDS];
        /** Both by maid, then by suitor: how much she likes him, he her. */
        final int[][] hers = new int[MOST_MAIDS][MOST_SUITORS];
        final int[][] his = new int[MOST_MAIDS][MOST_SUITORS];

        boolean stands() {
            return maids > 0;
        }

        boolean hasMaid(int m) {
            return m >= 0 && m < maids;
        }

        boolean hasSuitor(int s) {
            return s >= 0 && s < suitors;
        }

        boolean areSuitors(int[] row, int n) {
            for (int k = 0; k < n; k++) {
                if (!hasSuitor(row[k])) {
                    return false;
                }
            }
            return true;
        }

        /** Makes all anew by codes that are a text. */
        void settle(int[] codes) {
            suitors = codes[1] - '0';
            maids = codes[2] - '0';
            refusalsLet = FIRST_LAW;
            for (int m = 0; m < maids; m++) {
                int herPart = Text.maidPlace(suitors, m);
                kind[m] = Text.kindOf(codes[herPart + 1]);
                for (int s = 0; s < suitors; s++) {
                    hers[m][s] = codes[herPart + 2 + s] - '0';
                    his[m][s] = codes[Text.suitorPlace(suitors, maids, s) + 1 + m] - '0';
                }
            }
        }

        /** The least liking by which a maid of a kind takes one of her own will. */
        static int mind(int kind, int refusals) {
            switch (kind) {
                case PROUD: return 7;
                case HEIRESS: return 3 + refusals;
                default: return 5;
            }
        }

        /** What a maid who is not wed answers to a suitor who is not wed. */
        int answer(int m, int s, int refusals) {
            if (refusals >= refusalsLet) {
                return MUST;
            }
            return hers[m][s] >= mind(kind[m], refusals) ? TAKES : REFUSES;
        }

        int best(int m, int[] row, int n) {
            int most = 0;
            for (int k = 0; k < n && k <= refusalsLet; k++) {
                most = Math.max(most, hers[m][row[k]]);
            }
            return most;
        }

        int minded(int m, int[] row, int n) {
            for (int k = 0; k < n; k++) {
                // Whoever stands ahead of number k has been refused.
                if (answer(m, row[k], k) != REFUSES) {
                    return hers[m][row[k]];
                }
            }
            return 0;
        }

        int fewestAhead(int m, int told) {
            int fewest = NONE;
            for (int set = 0; set < 1 << suitors; set++) {
                boolean fewer = fewest == NONE || Integer.bitCount(set) < Integer.bitCount(fewest);
                if (fewer && (set >> told & 1) == 0 && bringsTo(m, told, set)) {
                    fewest = set;
                }
            }
            return fewest;
        }

        /** Whether all of a set are refused, and the told one, asking behind them, is not. */
        private boolean bringsTo(int m, int told, int set) {
            int refusals = 0;
            for (int s = 0; s < suitors; s++) {
                if ((set >> s & 1) == 1) {
                    if (answer(m, s, refusals) != REFUSES) {
                        return false;
                    }
                    refusals++;
                }
            }
            return answer(m, told, refusals) != REFUSES;
        }

        /** How many rows of n suitors there are, each any one of all. */
        int rowsOf(int n) {
            int rows = 1;
            for (int k = 0; k < n; k++) {
                rows *= suitors;
            }
            return rows;
        }

        /** The likings that a maid comes to, at her best, over all rows of n suitors. */
        int sumOverRows(int m, int n, int refusalsLeft) {
            int sum = 0;
            for (int toCome = 1; toCome <= n; toCome++) {
                // Nobody is liked less than 0, so 0 stands for a refusal that she has not left.
                int ifRefused = refusalsLeft > n - toCome ? sum : 0;
                sum = sumOfFirst(m, rowsOf(toCome - 1), ifRefused);
            }
            return sum;
        }

        /** As each suitor asks first, and ahead of so many rows: she takes him or refuses. */
        private int sumOfFirst(int m, int rowsBehind, int ifRefused) {
            int sum = 0;
            for (int s = 0; s < suitors; s++) {
                sum += Math.max(hers[m][s] * rowsBehind, ifRefused);
            }
            return sum;
        }
    }

    /** How days have gone so far: who is wed to whom, how often each maid has refused. */
    private static final class Days {
        final int[] refusals = new int[MOST_MAIDS];
        final int[] husband = new int[MOST_MAIDS];
        final int[] bride = new int[MOST_SUITORS];

        void begin() {
            Arrays.fill(refusals, 0);
            Arrays.fill(husband, NOBODY);
            Arrays.fill(bride, NOBODY);
        }

        /** A day on which a suitor asks a maid: what comes of it. */
        int ask(Valley land, int s, int m) {
            if (bride[s] != NOBODY || husband[m] != NOBODY) {
                return PAST;
            }
            int outcome = land.answer(m, s, refusals[m]);
            if (outcome == REFUSES) {
                refusals[m]++;
            } else {
                wed(s, m);
            }
            return outcome;
        }

        /** As if the day had not been. */
        void unask(int s, int m, int outcome) {
            if (outcome == REFUSES) {
                refusals[m]--;
            } else if (outcome != PAST) {
                part(s, m);
            }
        }

        void wed(int s, int m) {
            bride[s] = m;
            husband[m] = s;
        }

        void part(int s, int m) {
            bride[s] = NOBODY;
            husband[m] = NOBODY;
        }

        /**
         * Whether a suitor and a maid would break what has come about, when all that may yet change
         * is whom the suitors from number settled on wed.
         */
        boolean isBroken(Valley land, int settled) {
            boolean over = settled >= land.suitors;
            for (int m = 0; m < land.maids; m++) {
                // A maid with nobody may yet wed, so nothing is known of her ahead of the end.
                boolean known = over || husband[m] != NOBODY;
                for (int s = 0; s < settled && known; s++) {
                    if (wouldBreak(land, s, m)) {
                        return true;
                    }
                }
            }
            return false;
        }

        private boolean wouldBreak(Valley land, int s, int m) {
            int hisOwn = bride[s] == NOBODY ? -1 : land.his[bride[s]][s];
            int herOwn = husband[m] == NOBODY ? -1 : land.hers[m][husband[m]];
            return land.his[m][s] > hisOwn && land.hers[m][s] > herOwn;
        }
    }

    /** The offers that were made, and how the days have gone by them. */
    private static final class Offers {
        final int[] suitor = new int[MOST_OFFERS];
        final int[] maid = new int[MOST_OFFERS];
        final int[] outcome = new int[MOST_OFFERS];
        final Days days = new Days();
        int count;

        void forget() {
            count = 0;
            days.begin();
        }

        int add(Valley land, int s, int m) {
            int number = count;
            suitor[number] = s;
            maid[number] = m;
            outcome[number] = days.ask(land, s, m);
            count++;
            return number;
        }

        void goThrough(Valley land) {
            days.begin();
            for (int k = 0; k < count; k++) {
                outcome[k] = days.ask(land, suitor[k], maid[k]);
            }
        }
    }

    /** Looks through all matches, and through all rows of offers. */
    private static final class Matches {
        private final Days days = new Days();
        /** The first firm match: maids by suitors. */
        final int[] first = new int[MOST_SUITORS];
        private int found;

        int countFirm(Valley land) {
            days.begin();
            found = 0;
            matchFrom(this, land, 0);
            return found;
        }

        /** Goes through whom the suitors from number s on may wed, in the order of rows. */
        private static void matchFrom(Matches all, Valley land, int s) {
            if (all.days.isBroken(land, s)) {
                return;
            }
            if (s >= land.suitors) {
                all.keep();
                return;
            }
            for (int m = 0; m < land.maids; m++) {
                if (all.days.husband[m] == NOBODY) {
                    all.days.wed(s, m);
                    matchFrom(all, land, s + 1);
                    all.days.part(s, m);
                }
            }
            matchFrom(all, land, s + 1);
        }

        private void keep() {
            if (found == 0) {
                System.arraycopy(days.bride, 0, first, 0, MOST_SUITORS);
            }
            found++;
        }

        int countBringing(Valley land) {
            days.begin();
            return bringingFrom(days, land, 0);
        }

        /** How many rows of offers of the suitors from number s on bring a firm match. */
        private static int bringingFrom(Days days, Valley land, int s) {
            if (days.isBroken(land, s)) {
                return 0;
            }
            if (s >= land.suitors) {
                return 1;
            }
            int rows = 0;
            for (int m = 0; m < land.maids; m++) {
                int outcome = days.ask(land, s, m);
                rows += bringingFrom(days, land, s + 1);
                days.unask(s, m, outcome);
            }
            return rows;
        }
    }

    /** What was seen of maids: whom they took, or refused, of their own will. */
    private static final class Readings {
        final int[] maid = new int[MOST_READINGS];
        final int[] suitor = new int[MOST_READINGS];
        final int[] refusals = new int[MOST_READINGS];
        final boolean[] took = new boolean[MOST_READINGS];
        int count;

        int add(int m, int s, int refused, boolean hasTaken) {
            int number = count;
            maid[number] = m;
            suitor[number] = s;
            refusals[number] = refused;
            took[number] = hasTaken;
            count++;
            return number;
        }

        int leastLiking(Valley land, int m, int s) {
            for (int v = 0; v <= MOST_LIKING; v++) {
                if (areSoByLiking(land, m, s, v)) {
                    return v;
                }
            }
            return NONE;
        }

        int greatestLiking(Valley land, int m, int s) {
            for (int v = MOST_LIKING; v >= 0; v--) {
                if (areSoByLiking(land, m, s, v)) {
                    return v;
                }
            }
            return NONE;
        }

        int kindsOf(Valley land, int m) {
            int set = 0;
            for (int kind = 0; kind < KINDS; kind++) {
                if (areSoByKind(land, m, kind)) {
                    set |= 1 << kind;
                }
            }
            return set;
        }

        private boolean areSoByLiking(Valley land, int m, int s, int liking) {
            for (int k = 0; k < count; k++) {
                if (maid[k] == m && suitor[k] == s && !isSo(k, land.kind[m], liking)) {
                    return false;
                }
            }
            return true;
        }

        private boolean areSoByKind(Valley land, int m, int kind) {
            for (int k = 0; k < count; k++) {
                if (maid[k] == m && !isSo(k, kind, land.hers[m][suitor[k]])) {
                    return false;
                }
            }
            return true;
        }

        private boolean isSo(int k, int kind, int liking) {
            return took[k] == (liking >= Valley.mind(kind, refusals[k]));
        }
    }

    /** A sheet: nothing, or a row of numbers of a lane. */
    private static final class Sheet {
        final int[] cells = new int[MOST_CELLS];
        boolean hasRow;
        int lane;
        private int length;

        void renew(int newLane, int n) {
            Arrays.fill(cells, 0);
            hasRow = true;
            lane = newLane;
            length = n;
        }

        boolean hasCell(int i) {
            return i >= 0 && i < length;
        }

        boolean hasCells(int i, int n) {
            return i >= 0 && i <= length && n >= 0 && n <= length - i;
        }

        int faultOfRow(int asLane) {
            if (!hasRow) {
                return NULL;
            }
            return lane == asLane ? NO_FAULT : CAST;
        }

        int faultOfCells(int asLane, int i, int n) {
            int fault = faultOfRow(asLane);
            if (fault != NO_FAULT) {
                return fault;
            }
            if (n < 0) {
                return SIZE;
            }
            return hasCells(i, n) ? NO_FAULT : INDEX;
        }

        void readInto(int[] row, int i, int n) {
            System.arraycopy(cells, i, row, 0, n);
        }

        void write(int i, int v) {
            switch (lane) {
                case BYTES: cells[i] = (byte) v; break;
                case SHORTS: cells[i] = (short) v; break;
                default: cells[i] = v;
            }
        }
    }
}
