/** Is it by that hand: a court that weighs a picture. README.md tells how it is used. */
public final class PictureCourt {
    public static final int BAD = -1, FULL = -2, FINDING = -3, STATE = -4, NONE = -9;

    private static final int NOTHING = 1, BEYOND = 2, UNLIKE = 3, NOUGHT = 4, SIZE = 5;

    private static final int LAST_DAY = 30000;
    private static final int FIRST_YEAR = 1000, LAST_YEAR = 2100, LAST_RING_YEAR = 2000;
    private static final int ROWS = 6, LONGEST_ROW = 40, MISSING = -1;
    private static final int PAINTS = 10, MOST_SAP = 60, MOST_USE = 60, MOST_SAP_RINGS = 30;
    private static final int MOST_PROOFS = 24, HEAVIEST_PROOF = 9;
    private static final int KINDS = 4, YEARS = 0, PAINT = 1, RINGS = 2, THREADS = 3;
    private static final int HANDS = 4, HEAVIEST_HAND = 99;
    private static final int MOST_TESTS = 10, DEAREST = 1000, DEEPEST = 9, GROUPS = 4, OF_ALL = 16;
    private static final int MOST_OWNERS = 20;
    private static final int MOST_OPINIONS = 30, EXPERTS = 10, PERCENT = 100;
    private static final int MOST_LAWS = 8, HIGHEST_PRICE = 1000000;
    private static final int GOES_BACK = 1, TOO_LATE = 2, NOT_SHOWN = 3;
    private static final int LAST_COUNT = 7, LAST_DETAIL = 5;

    private final Proofs proofs = new Proofs();
    private final Rows rows = proofs.rows;
    private final Known known = new Known();
    private final Odds odds = new Odds();
    private final Owners owners = new Owners();
    private final Opinions opinions = new Opinions();
    private final Contract contract = new Contract();
    private final int[] findingCounts = new int[SIZE + 1];
    private int today = 0;
    private int latestFinding = 0;
    private int askedNumber = 0;
    private long upperNumber = 0;
    private long lowerNumber = 1;

    public PictureCourt() {
    }

    // ---- 1 rows, proofs

    public int later(int n) {
        if (!isWithin(n, 0, LAST_DAY - today)) {
            return BAD;
        }
        today += n;
        return today;
    }

    public int row(int r, int n) {
        if (!isRow(r) || n > LONGEST_ROW) {
            return BAD;
        }
        if (n < 0) {
            return refuse(SIZE);
        }
        rows.make(r, n);
        return n;
    }

    public int lay(int r, int i, int v) {
        if (!isRow(r)) {
            return BAD;
        }
        if (rows.isMissing(r)) {
            return refuse(NOTHING);
        }
        if (!rows.hasRun(r, i, 1)) {
            return refuse(BEYOND);
        }
        return rows.swap(r, i, (byte) v) + 1000;
    }

    public int tear(int r) {
        if (!isRow(r)) {
            return BAD;
        }
        if (rows.isMissing(r)) {
            return refuse(NOTHING);
        }
        rows.drop(r);
        return 1;
    }

    public int copy(int r, int i, int to, int j, int n) {
        if (!isRow(r) || !isRow(to)) {
            return BAD;
        }
        if (rows.isMissing(r) || rows.isMissing(to)) {
            return refuse(NOTHING);
        }
        if (!rows.hasRun(r, i, n) || !rows.hasRun(to, j, n)) {
            return refuse(BEYOND);
        }
        rows.move(r, i, to, j, n);
        return 1;
    }

    public int match(int r, int other) {
        if (!areTwoRows(r, other)) {
            return BAD;
        }
        if (rows.isMissing(r) || rows.isMissing(other)) {
            return refuse(NOTHING);
        }
        if (!rows.canMatch(r, other)) {
            return refuse(SIZE);
        }
        int place = rows.bestPlace(r, other);
        askedNumber = rows.offAt(r, other, place);
        return place;
    }

    public int sure(int r, int other) {
        if (!areTwoRows(r, other)) {
            return BAD;
        }
        return rows.isSure(r, other) ? 1 : 0;
    }

    public int paint(int p, int year) {
        if (!isWithin(p, 0, PAINTS - 1) || !isYear(year)) {
            return BAD;
        }
        return proofs.swapPaintYear(p, year);
    }

    public int sap(int least, int most, int use) {
        boolean isSap = isWithin(least, 0, MOST_SAP) && isWithin(most, least, MOST_SAP);
        if (!isSap || !isWithin(use, 0, MOST_USE)) {
            return BAD;
        }
        proofs.setSap(least, most, use);
        return 1;
    }

    public int proof(int a, int b, int weight) {
        if (!areYears(a, b) || !isProofWeight(weight)) {
            return BAD;
        }
        if (proofs.isFull()) {
            return FULL;
        }
        return proofs.addYears(a, b, weight, today);
    }

    public int found(int paint, int weight) {
        if (!isWithin(paint, 0, PAINTS - 1) || !isProofWeight(weight)) {
            return BAD;
        }
        if (proofs.isFull()) {
            return FULL;
        }
        return proofs.addPaint(paint, weight, today);
    }

    public int rings(int r, int s, int weight) {
        boolean areRings = isWithin(r, FIRST_YEAR, LAST_RING_YEAR) && isWithin(s, 0, MOST_SAP_RINGS);
        if (!areRings || !isProofWeight(weight)) {
            return BAD;
        }
        if (proofs.isFull()) {
            return FULL;
        }
        return proofs.addRings(r, s, weight, today);
    }

    public int threads(int row, int other, int a, int b, int weight) {
        if (!areTwoRows(row, other) || !areYears(a, b) || !isProofWeight(weight)) {
            return BAD;
        }
        if (proofs.isFull()) {
            return FULL;
        }
        return proofs.addThreads(row, other, a, b, weight, today);
    }

    public int strike(int proof) {
        if (!proofs.has(proof)) {
            return BAD;
        }
        if (proofs.isStruck(proof)) {
            return STATE;
        }
        proofs.strikeOn(proof, today);
        return 1;
    }

    public int told(int proof, int what) {
        if (!proofs.has(proof) || !isWithin(what, 0, LAST_DETAIL)) {
            return BAD;
        }
        return proofs.detail(proof, what);
    }

    public int mark(int proof, int kind) {
        if (!proofs.has(proof) || !isWithin(kind, 0, KINDS - 1)) {
            return BAD;
        }
        if (!proofs.isOfKind(proof, kind)) {
            return refuse(UNLIKE);
        }
        return proofs.markAs(proof, kind);
    }

    public int span(int day, boolean late) {
        if (!isDay(day)) {
            return BAD;
        }
        proofs.gather(day, known);
        int first = known.firstCommonYear();
        int last = known.lastCommonYear();
        if (first > last) {
            return NONE;
        }
        return late ? last : first;
    }

    public int quarrel(int day) {
        if (!isDay(day)) {
            return BAD;
        }
        proofs.gather(day, known);
        for (int k = 0; k < known.size; k++) {
            int opponent = known.opponentAfter(k);
            if (opponent != NONE) {
                askedNumber = known.numbers[opponent];
                return known.numbers[k];
            }
        }
        return NONE;
    }

    public int leftOut(int day) {
        if (!isDay(day)) {
            return BAD;
        }
        proofs.gather(day, known);
        int year = known.heaviestYear();
        askedNumber = known.setWithout(year);
        return known.weightOfAll() - known.weightOn(year);
    }

    public int heldYear(int day) {
        if (!isDay(day)) {
            return BAD;
        }
        proofs.gather(day, known);
        return known.heaviestYear();
    }

    // ---- 2 hands, tests

    public int hand(int hand, int w) {
        if (!isHand(hand) || !isWithin(w, 0, HEAVIEST_HAND)) {
            return BAD;
        }
        return odds.swapWeight(hand, w);
    }

    public int test(int cost, int wound, int group) {
        boolean isGroup = group == NONE || isWithin(group, 0, GROUPS - 1);
        if (!isWithin(cost, 1, DEAREST) || !isWithin(wound, 0, DEEPEST) || !isGroup) {
            return BAD;
        }
        if (odds.isFull()) {
            return FULL;
        }
        return odds.add(cost, wound, group);
    }

    public int often(int test, int hand, int n) {
        if (!odds.has(test) || !isHand(hand) || !isWithin(n, 0, OF_ALL)) {
            return BAD;
        }
        if (odds.isDone(test)) {
            return STATE;
        }
        return odds.swapOften(test, hand, n);
    }

    public int done(int test, boolean out) {
        if (!odds.has(test)) {
            return BAD;
        }
        if (odds.isDone(test)) {
            return STATE;
        }
        return odds.finish(test, out) ? 1 : 0;
    }

    public int chance(int hand) {
        if (!isHand(hand)) {
            return BAD;
        }
        long all = odds.scoreOfAll();
        if (all == 0) {
            return refuse(NOUGHT);
        }
        tellFraction(odds.score(hand), all);
        return 1;
    }

    public int likely() {
        if (odds.scoreOfAll() == 0) {
            return refuse(NOUGHT);
        }
        return odds.likeliest();
    }

    public int gain(int test) {
        if (!odds.has(test)) {
            return BAD;
        }
        if (!odds.isOpen(test)) {
            return STATE;
        }
        long all = odds.scoreOfAll();
        if (all == 0) {
            return refuse(NOUGHT);
        }
        tellFraction(odds.gainOf(test), OF_ALL * all);
        return 1;
    }

    public int next(int cost, int wound) {
        if (cost < 0 || wound < 0) {
            return BAD;
        }
        if (odds.scoreOfAll() == 0) {
            return refuse(NOUGHT);
        }
        return odds.best(cost, wound);
    }

    // ---- 3 owners, opinions, the contract

    public int owner(int a, int b) {
        if (!areYears(a, b)) {
            return BAD;
        }
        if (owners.isFull()) {
            return FULL;
        }
        return owners.add(a, b);
    }

    public int gaps(int a, int b) {
        if (!areYears(a, b)) {
            return BAD;
        }
        owners.findGaps(a, b);
        askedNumber = owners.longestGap;
        return owners.gapYears;
    }

    public int opinion(int expert, int hand, int sure, boolean knew) {
        if (!isWithin(expert, 0, EXPERTS - 1) || !isHand(hand) || !isWithin(sure, 0, PERCENT)) {
            return BAD;
        }
        if (opinions.isFull()) {
            return FULL;
        }
        return opinions.add(expert, hand, sure, knew);
    }

    public int mean(int hand, boolean knew) {
        if (!isHand(hand)) {
            return BAD;
        }
        int many = opinions.howMany(hand, knew);
        if (many == 0) {
            return refuse(NOUGHT);
        }
        return opinions.sumOf(hand, knew) / many;
    }

    public int spread() {
        opinions.findSpread();
        if (opinions.widest == NONE) {
            return NONE;
        }
        askedNumber = opinions.widestExpert;
        return opinions.widest;
    }

    public int sold(int day, int price, int hand) {
        if (!isWithin(day, 0, today) || !isWithin(price, 1, HIGHEST_PRICE) || !isHand(hand)) {
            return BAD;
        }
        contract.sell(day, price, hand);
        return 1;
    }

    public int law(int day, int d, int u, int rate) {
        boolean areDays = isDay(day) && isWithin(d, 0, LAST_DAY);
        if (!areDays || !isWithin(u, 0, PERCENT) || !isWithin(rate, 0, PERCENT)) {
            return BAD;
        }
        if (contract.isFull()) {
            return FULL;
        }
        return contract.addLaw(day, d, u, rate);
    }

    public int claim() {
        int law = contract.lawInForce();
        if (law == NONE) {
            return STATE;
        }
        long all = odds.scoreOfAll();
        if (all == 0) {
            return refuse(NOUGHT);
        }
        if (contract.isTooLate(law, today)) {
            return TOO_LATE;
        }
        if (!contract.isBelow(law, odds.score(contract.hand), all)) {
            return NOT_SHOWN;
        }
        askedNumber = contract.paidBack(law, today);
        return GOES_BACK;
    }

    // ---- 4 what is told

    public int asked() {
        return askedNumber;
    }

    public long upper() {
        return upperNumber;
    }

    public long lower() {
        return lowerNumber;
    }

    public int count(int what) {
        switch (what) {
            case 0: return today;
            case 1: return proofs.size;
            case 2: return proofs.size - proofs.struck;
            case 3: return odds.size;
            case 4: return odds.finished;
            case 5: return owners.size;
            case 6: return opinions.size;
            case 7: return contract.laws;
            default: return BAD;
        }
    }

    public int finding() {
        return latestFinding;
    }

    public int findings(int f) {
        if (!isWithin(f, NOTHING, SIZE)) {
            return BAD;
        }
        return findingCounts[f];
    }

    public long digest() {
        long h = 17;
        for (int what = 0; what <= LAST_COUNT; what++) {
            h = 31 * h + count(what);
        }
        for (int p = 0; p < proofs.size; p++) {
            for (int what = 0; what <= LAST_DETAIL; what++) {
                h = 31 * h + proofs.detail(p, what);
            }
        }
        h = odds.mixInto(h);
        h = proofs.mixPaintsInto(h);
        return rows.mixInto(h);
    }

    private int refuse(int finding) {
        latestFinding = finding;
        findingCounts[finding]++;
        return FINDING;
    }

    /** The lower number is above 0, so the common divisor is, too. */
    private void tellFraction(long upper, long lower) {
        long common = Math.max(1, commonDivisor(upper, lower));
        upperNumber = upper / common;
        lowerNumber = lower / common;
    }

    /** Euclid needs fewer than 100 steps for any two longs; the bound only shows that it ends. */
    private static long commonDivisor(long a, long b) {
        for (int step = 0; b != 0 && step < 1000; step++) {
            long rest = a % b;
            a = b;
            b = rest;
        }
        return a;
    }

    private static boolean isWithin(int n, int least, int most) {
        return n >= least && n <= most;
    }

    private static boolean isDay(int day) {
        return isWithin(day, 0, LAST_DAY);
    }

    private static boolean isYear(int year) {
        return isWithin(year, FIRST_YEAR, LAST_YEAR);
    }

    private static boolean areYears(int a, int b) {
        return isYear(a) && isYear(b) && a <= b;
    }

    private static boolean isRow(int r) {
        return isWithin(r, 0, ROWS - 1);
    }

    private static boolean areTwoRows(int r, int other) {
        return isRow(r) && isRow(other) && r != other;
    }

    private static boolean isHand(int hand) {
        return isWithin(hand, 0, HANDS - 1);
    }

    private static boolean isProofWeight(int weight) {
        return isWithin(weight, 1, HEAVIEST_PROOF);
    }

    /** Counts of threads. All rows share one array, so that none has to be made later. */
    private static final class Rows {
        private final int[] sizes = new int[ROWS];
        private final byte[] bytes = new byte[ROWS * LONGEST_ROW];

        Rows() {
            for (int r = 0; r < ROWS; r++) {
                sizes[r] = MISSING;
            }
        }

        boolean isMissing(int r) {
            return sizes[r] == MISSING;
        }

        /** Whether n places from i on are there; asked so that no sum can wrap around. */
        boolean hasRun(int r, int i, int n) {
            return i >= 0 && i <= sizes[r] && n >= 0 && n <= sizes[r] - i;
        }

        void make(int r, int n) {
            sizes[r] = n;
            for (int i = 0; i < n; i++) {
                bytes[r * LONGEST_ROW + i] = 0;
            }
        }

        void drop(int r) {
            sizes[r] = MISSING;
        }

        int swap(int r, int i, byte v) {
            int before = bytes[r * LONGEST_ROW + i];
            bytes[r * LONGEST_ROW + i] = v;
            return before;
        }

        /** arraycopy takes the bytes ahead, also where both runs overlap in one row. */
        void move(int r, int i, int to, int j, int n) {
            System.arraycopy(bytes, r * LONGEST_ROW + i, bytes, to * LONGEST_ROW + j, n);
        }

        /** A missing row is shorter than any other one, so it never passes. */
        boolean canMatch(int r, int other) {
            return sizes[r] > 0 && sizes[other] >= sizes[r];
        }

        int bestPlace(int r, int other) {
            int best = 0;
            int least = offAt(r, other, 0);
            for (int place = 1; place <= sizes[other] - sizes[r]; place++) {
                int off = offAt(r, other, place);
                if (off < least) {
                    best = place;
                    least = off;
                }
            }
            return best;
        }

        int offAt(int r, int other, int place) {
            int start = r * LONGEST_ROW;
            int otherStart = other * LONGEST_ROW + place;
            int off = 0;
            for (int i = 0; i < sizes[r]; i++) {
                off += Math.abs(bytes[start + i] - bytes[otherStart + i]);
            }
            return off;
        }

        boolean isSure(int r, int other) {
            if (!canMatch(r, other)) {
                return false;
            }
            int off = offAt(r, other, bestPlace(r, other));
            for (int k = 0; k < ROWS; k++) {
                boolean isRival = k != r && k != other && canMatch(r, k);
                if (isRival && offAt(r, k, bestPlace(r, k)) <= off) {
                    return false;
                }
            }
            return true;
        }

        long mixInto(long h) {
            for (int r = 0; r < ROWS; r++) {
                h = 31 * h + sizes[r];
                for (int i = 0; i < sizes[r]; i++) {
                    h = 31 * h + bytes[r * LONGEST_ROW + i];
                }
            }
            return h;
        }
    }

    /** Proofs, and the rows, paints and sap on which their years depend whenever they are asked. */
    private static final class Proofs {
        final Rows rows = new Rows();
        private final int[] paintYears = new int[PAINTS];
        private final int[] kinds = new int[MOST_PROOFS];
        private final int[] weights = new int[MOST_PROOFS];
        private final int[] toldDays = new int[MOST_PROOFS];
        private final int[] struckDays = new int[MOST_PROOFS];
        /** The paint of a PAINT, how many of RINGS are sap, the first row of THREADS. */
        private final int[] subjects = new int[MOST_PROOFS];
        private final int[] otherRows = new int[MOST_PROOFS];
        private final int[] froms = new int[MOST_PROOFS];
        private final int[] tos = new int[MOST_PROOFS];
        private int leastSap = 8;
        private int mostSap = 24;
        private int yearsToUse = 10;
        int size = 0;
        int struck = 0;

        Proofs() {
            for (int p = 0; p < PAINTS; p++) {
                paintYears[p] = FIRST_YEAR;
            }
        }

        boolean isFull() {
            return size >= MOST_PROOFS;
        }

        boolean has(int p) {
            return p >= 0 && p < size;
        }

        int swapPaintYear(int p, int year) {
            int before = paintYears[p];
            paintYears[p] = year;
            return before;
        }

        void setSap(int least, int most, int use) {
            leastSap = least;
            mostSap = most;
            yearsToUse = use;
        }

        int addYears(int a, int b, int weight, int day) {
            froms[size] = a;
            tos[size] = b;
            return add(YEARS, weight, day);
        }

        int addPaint(int paint, int weight, int day) {
            subjects[size] = paint;
            return add(PAINT, weight, day);
        }

        int addRings(int lastRing, int sapRings, int weight, int day) {
            froms[size] = lastRing;
            subjects[size] = sapRings;
            return add(RINGS, weight, day);
        }

        int addThreads(int r, int other, int a, int b, int weight, int day) {
            subjects[size] = r;
            otherRows[size] = other;
            froms[size] = a;
            tos[size] = b;
            return add(THREADS, weight, day);
        }

        private int add(int kind, int weight, int day) {
            kinds[size] = kind;
            weights[size] = weight;
            toldDays[size] = day;
            struckDays[size] = NONE;
            size++;
            return size - 1;
        }

        boolean isStruck(int p) {
            return struckDays[p] != NONE;
        }

        void strikeOn(int p, int day) {
            struckDays[p] = day;
            struck++;
        }

        int detail(int p, int what) {
            switch (what) {
                case 0: return kinds[p];
                case 1: return weights[p];
                case 2: return toldDays[p];
                case 3: return struckDays[p];
                case 4: return firstYear(p);
                default: return lastYear(p);
            }
        }

        /** Every kind is a PROOF, too. */
        boolean isOfKind(int p, int kind) {
            return kind == YEARS || kind == kinds[p];
        }

        int markAs(int p, int kind) {
            switch (kind) {
                case PAINT:
                case RINGS: return subjects[p];
                case THREADS: return rows.isSure(subjects[p], otherRows[p]) ? 1 : 0;
                default: return lastYear(p) - firstYear(p) + 1;
            }
        }

        private int lacking(int p, int sap) {
            return Math.max(0, sap - subjects[p]);
        }

        private int firstYear(int p) {
            switch (kinds[p]) {
                case PAINT: return paintYears[subjects[p]];
                case RINGS: return froms[p] + lacking(p, leastSap);
                case THREADS: return rows.isSure(subjects[p], otherRows[p]) ? froms[p] : FIRST_YEAR;
                default: return froms[p];
            }
        }

        private int lastYear(int p) {
            switch (kinds[p]) {
                case PAINT: return LAST_YEAR;
                case RINGS: return Math.min(LAST_YEAR, froms[p] + lacking(p, mostSap) + yearsToUse);
                case THREADS: return rows.isSure(subjects[p], otherRows[p]) ? tos[p] : LAST_YEAR;
                default: return tos[p];
            }
        }

        private boolean isKnown(int p, int day) {
            return toldDays[p] <= day && (!isStruck(p) || day < struckDays[p]);
        }

        void gather(int day, Known known) {
            known.size = 0;
            for (int p = 0; p < size; p++) {
                if (isKnown(p, day)) {
                    known.add(p, firstYear(p), lastYear(p), weights[p]);
                }
            }
        }

        long mixPaintsInto(long h) {
            for (int p = 0; p < PAINTS; p++) {
                h = 31 * h + paintYears[p];
            }
            return h;
        }
    }

    /** The proofs known as of a day, their years worked out once; filled anew by each call that asks. */
    private static final class Known {
        final int[] numbers = new int[MOST_PROOFS];
        private final int[] froms = new int[MOST_PROOFS];
        private final int[] tos = new int[MOST_PROOFS];
        private final int[] weights = new int[MOST_PROOFS];
        int size = 0;

        void add(int number, int from, int to, int weight) {
            numbers[size] = number;
            froms[size] = from;
            tos[size] = to;
            weights[size] = weight;
            size++;
        }

        int firstCommonYear() {
            int first = FIRST_YEAR;
            for (int k = 0; k < size; k++) {
                first = Math.max(first, froms[k]);
            }
            return first;
        }

        int lastCommonYear() {
            int last = LAST_YEAR;
            for (int k = 0; k < size; k++) {
                last = Math.min(last, tos[k]);
            }
            return last;
        }

        int opponentAfter(int k) {
            for (int j = k + 1; j < size; j++) {
                if (froms[j] > tos[k] || froms[k] > tos[j]) {
                    return j;
                }
            }
            return NONE;
        }

        /** The sum rises only where a proof begins, so no year but those and the first of all can be it. */
        int heaviestYear() {
            int best = FIRST_YEAR;
            int most = weightOn(FIRST_YEAR);
            for (int k = 0; k < size; k++) {
                int weight = weightOn(froms[k]);
                if (weight > most || (weight == most && froms[k] < best)) {
                    best = froms[k];
                    most = weight;
                }
            }
            return best;
        }

        private boolean holds(int k, int year) {
            return froms[k] <= year && year <= tos[k];
        }

        int weightOn(int year) {
            int sum = 0;
            for (int k = 0; k < size; k++) {
                if (holds(k, year)) {
                    sum += weights[k];
                }
            }
            return sum;
        }

        int weightOfAll() {
            int sum = 0;
            for (int k = 0; k < size; k++) {
                sum += weights[k];
            }
            return sum;
        }

        int setWithout(int year) {
            int set = 0;
            for (int k = 0; k < size; k++) {
                if (!holds(k, year)) {
                    set |= 1 << numbers[k];
                }
            }
            return set;
        }
    }

    /** Hands and tests. A score is at most 99 times 16 to the tenth, so 100 times all of them fit in a long. */
    private static final class Odds {
        private final int[] handWeights = new int[HANDS];
        private final int[] costs = new int[MOST_TESTS];
        private final int[] wounds = new int[MOST_TESTS];
        private final int[] groups = new int[MOST_TESTS];
        private final int[] oftens = new int[MOST_TESTS * HANDS];
        /** 1 it came out, 0 it did not, NONE it is not done. */
        private final int[] results = new int[MOST_TESTS];
        private final boolean[] counts = new boolean[MOST_TESTS];
        private final boolean[] groupsDone = new boolean[GROUPS];
        int size = 0;
        int finished = 0;

        Odds() {
            for (int hand = 0; hand < HANDS; hand++) {
                handWeights[hand] = 1;
            }
        }

        boolean isFull() {
            return size >= MOST_TESTS;
        }

        boolean has(int t) {
            return t >= 0 && t < size;
        }

        int swapWeight(int hand, int weight) {
            int before = handWeights[hand];
            handWeights[hand] = weight;
            return before;
        }

        int add(int cost, int wound, int group) {
            costs[size] = cost;
            wounds[size] = wound;
            groups[size] = group;
            results[size] = NONE;
            for (int hand = 0; hand < HANDS; hand++) {
                oftens[size * HANDS + hand] = OF_ALL / 2;
            }
            size++;
            return size - 1;
        }

        int swapOften(int t, int hand, int n) {
            int before = oftens[t * HANDS + hand];
            oftens[t * HANDS + hand] = n;
            return before;
        }

        boolean isDone(int t) {
            return results[t] != NONE;
        }

        private boolean isGroupDone(int t) {
            return groups[t] != NONE && groupsDone[groups[t]];
        }

        boolean isOpen(int t) {
            return !isDone(t) && !isGroupDone(t);
        }

        /** Answers whether the test counts. */
        boolean finish(int t, boolean out) {
            counts[t] = !isGroupDone(t);
            results[t] = out ? 1 : 0;
            if (groups[t] != NONE) {
                groupsDone[groups[t]] = true;
            }
            finished++;
            return counts[t];
        }

        long score(int hand) {
            long score = handWeights[hand];
            for (int t = 0; t < size; t++) {
                if (counts[t]) {
                    int often = oftens[t * HANDS + hand];
                    score *= results[t] == 1 ? often : OF_ALL - often;
                }
            }
            return score;
        }

        long scoreOfAll() {
            long sum = 0;
            for (int hand = 0; hand < HANDS; hand++) {
                sum += score(hand);
            }
            return sum;
        }

        int likeliest() {
            int best = 0;
            for (int hand = 1; hand < HANDS; hand++) {
                if (score(hand) > score(best)) {
                    best = hand;
                }
            }
            return best;
        }

        /**
         * The gain's upper number over 16 times all scores: how likely an outcome is cancels
         * against the divisor of the chances behind it, so only the greatest products are left.
         */
        long gainOf(int t) {
            long mostOut = 0;
            long mostNotOut = 0;
            long mostNow = 0;
            for (int hand = 0; hand < HANDS; hand++) {
                long score = score(hand);
                int often = oftens[t * HANDS + hand];
                mostOut = Math.max(mostOut, score * often);
                mostNotOut = Math.max(mostNotOut, score * (OF_ALL - often));
                mostNow = Math.max(mostNow, score * OF_ALL);
            }
            return mostOut + mostNotOut - mostNow;
        }

        /** All gains have one divisor, so their upper numbers tell which is greatest. */
        int best(int cost, int wound) {
            int best = NONE;
            long most = 0;
            for (int t = 0; t < size; t++) {
                if (isOpen(t) && costs[t] <= cost && wounds[t] <= wound) {
                    long gain = gainOf(t);
                    if (best == NONE || gain > most || (gain == most && costs[t] < costs[best])) {
                        best = t;
                        most = gain;
                    }
                }
            }
            return best;
        }

        long mixInto(long h) {
            for (int hand = 0; hand < HANDS; hand++) {
                h = 31 * h + handWeights[hand];
            }
            for (int t = 0; t < size; t++) {
                h = 31 * h + costs[t];
                h = 31 * h + wounds[t];
                h = 31 * h + groups[t];
                for (int hand = 0; hand < HANDS; hand++) {
                    h = 31 * h + oftens[t * HANDS + hand];
                }
                h = 31 * h + results[t];
            }
            return h;
        }
    }

    /** Owners, kept in the order of their first years, so that one walk over them finds all gaps. */
    private static final class Owners {
        private final int[] froms = new int[MOST_OWNERS];
        private final int[] tos = new int[MOST_OWNERS];
        int size = 0;
        int gapYears = 0;
        int longestGap = 0;

        boolean isFull() {
            return size >= MOST_OWNERS;
        }

        int add(int a, int b) {
            int place = size;
            for (; place > 0 && froms[place - 1] > a; place--) {
                froms[place] = froms[place - 1];
                tos[place] = tos[place - 1];
            }
            froms[place] = a;
            tos[place] = b;
            size++;
            return size;
        }

        void findGaps(int a, int b) {
            gapYears = 0;
            longestGap = 0;
            int year = a;
            for (int k = 0; k < size; k++) {
                addGap(Math.min(froms[k], b + 1) - year);
                year = Math.max(year, tos[k] + 1);
            }
            addGap(b + 1 - year);
        }

        private void addGap(int years) {
            if (years > 0) {
                gapYears += years;
                longestGap = Math.max(longestGap, years);
            }
        }
    }

    private static final class Opinions {
        private final int[] experts = new int[MOST_OPINIONS];
        private final int[] hands = new int[MOST_OPINIONS];
        private final int[] sures = new int[MOST_OPINIONS];
        private final boolean[] knews = new boolean[MOST_OPINIONS];
        int size = 0;
        int widest = NONE;
        int widestExpert = NONE;

        boolean isFull() {
            return size >= MOST_OPINIONS;
        }

        int add(int expert, int hand, int sure, boolean knew) {
            experts[size] = expert;
            hands[size] = hand;
            sures[size] = sure;
            knews[size] = knew;
            size++;
            return size;
        }

        int howMany(int hand, boolean knew) {
            int many = 0;
            for (int k = 0; k < size; k++) {
                if (hands[k] == hand && knews[k] == knew) {
                    many++;
                }
            }
            return many;
        }

        int sumOf(int hand, boolean knew) {
            int sum = 0;
            for (int k = 0; k < size; k++) {
                if (hands[k] == hand && knews[k] == knew) {
                    sum += sures[k];
                }
            }
            return sum;
        }

        /** NONE is below every difference, so the first pair is always taken. */
        void findSpread() {
            widest = NONE;
            widestExpert = NONE;
            for (int k = 0; k < size; k++) {
                for (int j = k + 1; j < size; j++) {
                    if (areComparable(k, j)) {
                        weighPair(experts[k], Math.abs(sures[k] - sures[j]));
                    }
                }
            }
        }

        private boolean areComparable(int k, int j) {
            return !knews[k] && !knews[j] && experts[k] == experts[j] && hands[k] == hands[j];
        }

        private void weighPair(int expert, int difference) {
            if (difference > widest || (difference == widest && expert < widestExpert)) {
                widest = difference;
                widestExpert = expert;
            }
        }
    }

    /** The contract, of which there is none while its day is NONE, and the laws. */
    private static final class Contract {
        private final int[] lawDays = new int[MOST_LAWS];
        private final int[] limits = new int[MOST_LAWS];
        private final int[] bounds = new int[MOST_LAWS];
        private final int[] rates = new int[MOST_LAWS];
        private int saleDay = NONE;
        private int price = 0;
        int hand = 0;
        int laws = 0;

        boolean isFull() {
            return laws >= MOST_LAWS;
        }

        int addLaw(int day, int limit, int bound, int rate) {
            lawDays[laws] = day;
            limits[laws] = limit;
            bounds[laws] = bound;
            rates[laws] = rate;
            laws++;
            return laws - 1;
        }

        void sell(int day, int amount, int promisedHand) {
            saleDay = day;
            price = amount;
            hand = promisedHand;
        }

        /** NONE is before every day, so without a contract no law is in force. */
        int lawInForce() {
            int inForce = NONE;
            for (int law = 0; law < laws; law++) {
                boolean isLater = inForce == NONE || lawDays[law] >= lawDays[inForce];
                if (lawDays[law] <= saleDay && isLater) {
                    inForce = law;
                }
            }
            return inForce;
        }

        boolean isTooLate(int law, int today) {
            return today - saleDay > limits[law];
        }

        /** Multiplied out, so that no fraction has to be cut. */
        boolean isBelow(int law, long score, long all) {
            return PERCENT * score < bounds[law] * all;
        }

        int paidBack(int law, int today) {
            long interest = (long) price * rates[law] * (today - saleDay) / 36500;
            return (int) (price + interest);
        }
    }
}
