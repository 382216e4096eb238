/**
 * Real roots of polynomials of the second degree at most, named by signs of derivatives, and the
 * line that these roots cut. The document's words in capitals mean here what they mean there.
 *
 * <p>Inside, a sign is -1, 0 or 1; a SIGN, as it is told and answered, is 1 more.
 */
public final class RootSigns {
    public static final int UNKNOWN = -1, OUTSIDE = -2, STATE = -3, FULL = -4, NONE = -9;
    public static final long LOST = Long.MIN_VALUE;

    private static final int MOST_POLYNOMIALS = 4;
    private static final int COEFFICIENTS = 3;
    private static final int LARGEST = 9;
    private static final int ROOTS_EACH = 2;
    private static final int MOST_ROOTS = MOST_POLYNOMIALS * ROOTS_EACH;
    private static final int MOST_SPOTS = 2 * MOST_ROOTS + 1;
    private static final int MOST_READINGS = 8;
    private static final int LAST_SPOT_READ = 20;
    private static final int MOST_ACTS = 20;
    private static final int FARTHEST = 1000000;
    private static final int SIGNS = 3;
    private static final int WHICHEVER = 3;
    private static final int NAMES = 9;

    private static final int PLAIN = 0, MIRRORED = 1, SHIFTED = 2, KINDS = 3;
    private static final int BYTES = 0, SHORTS = 1, LANES = 3;
    private static final int SHEETS = 4;
    private static final int MOST_CELLS = 60;

    private static final int NO_FAULT = 0, NULL_FAULT = 1, CAST_FAULT = 2, INDEX_FAULT = 3, SIZE_FAULT = 4;

    private final Sheet[] sheets;
    private final Told told;
    private final Line now;
    private final Told trial;
    private final Line trialLine;
    private final TextReader reader;
    private final Readings readings;
    private int traced;
    private int latestFault;

    public RootSigns() {
        sheets = new Sheet[SHEETS];
        told = new Told();
        now = new Line();
        trial = new Told();
        trialLine = new Line();
        reader = new TextReader();
        readings = new Readings();
    }

    // ---- 1 polynomials

    public int polynomials(int sheet, int lane, int i, int n) {
        latestFault = NO_FAULT;
        if (!isSheet(sheet)) {
            return UNKNOWN;
        }
        if (!isBelow(lane, LANES)) {
            return OUTSIDE;
        }
        Sheet s = sheets[sheet];
        int fault = faultOfCells(s, lane, i, n);
        if (fault != NO_FAULT) {
            return failed(fault);
        }
        int wrong = reader.firstFault(s.cells, i, n);
        if (wrong != NONE) {
            return -100 - wrong;
        }
        told.become(reader.draft);
        readings.count = 0;
        now.lay(told);
        return told.count;
    }

    public int ofPolynomial(int p, int what) {
        if (!isPolynomial(p)) {
            return UNKNOWN;
        }
        if (what == 0) {
            return told.kindOf[p];
        }
        if (what == 1) {
            return now.rootsOf[p];
        }
        if (what >= 10 && what < 10 + COEFFICIENTS) {
            return told.numbers[p * COEFFICIENTS + what - 10] + LARGEST;
        }
        if (what >= 20 && what < 20 + COEFFICIENTS) {
            return told.exact(p, what - 20) + 100;
        }
        return OUTSIDE;
    }

    public long value(int p, int x) {
        if (!isPolynomial(p) || x < -FARTHEST || x > FARTHEST) {
            return LOST;
        }
        long at = x;
        return told.exact(p, 0) + told.exact(p, 1) * at + told.exact(p, 2) * at * at;
    }

    public int tune(int p, int k, int v) {
        if (!isPolynomial(p)) {
            return UNKNOWN;
        }
        if (!isBelow(k, COEFFICIENTS) || !isNumber(v)) {
            return OUTSIDE;
        }
        int was = told.numbers[p * COEFFICIENTS + k];
        told.numbers[p * COEFFICIENTS + k] = v;
        now.lay(told);
        return was + LARGEST;
    }

    public int day(int sheet, int lane, int i, int n, int what) {
        latestFault = NO_FAULT;
        if (!isSheet(sheet)) {
            return UNKNOWN;
        }
        if (!isBelow(lane, LANES) || n < 0 || n > MOST_ACTS || !isAskedOfDay(what)) {
            return OUTSIDE;
        }
        if (told.count == 0) {
            return STATE;
        }
        Sheet s = sheets[sheet];
        int fault = faultOfCells(s, lane, i, n * 3);
        if (fault != NO_FAULT) {
            return failed(fault);
        }
        int[] cells = s.cells;
        if (!areActs(cells, i, n)) {
            return OUTSIDE;
        }
        int wrong = firstWrong(cells, i, n);
        if (what == 1) {
            return wrong;
        }
        if (wrong != NONE) {
            return -100 - wrong;
        }
        tellDay(cells, i, n);
        trialLine.lay(trial);
        return ofDay(what);
    }

    private static boolean isAskedOfDay(int what) {
        return what >= 0 && what <= 4 || what >= 10 && what < 10 + MOST_POLYNOMIALS;
    }

    private static boolean areActs(int[] cells, int from, int n) {
        for (int act = 0; act < n; act++) {
            int at = from + act * 3;
            if (!isBelow(cells[at + 1], COEFFICIENTS) || !isNumber(cells[at + 2])) {
                return false;
            }
        }
        return true;
    }

    private int firstWrong(int[] cells, int from, int n) {
        for (int act = 0; act < n; act++) {
            if (!isPolynomial(cells[from + act * 3])) {
                return act;
            }
        }
        return NONE;
    }

    private void tellDay(int[] cells, int from, int n) {
        trial.become(told);
        for (int act = 0; act < n; act++) {
            int at = from + act * 3;
            trial.numbers[cells[at] * COEFFICIENTS + cells[at + 1]] = cells[at + 2];
        }
    }

    private int ofDay(int what) {
        switch (what) {
            case 0:
                return trialLine.unlike;
            case 2:
                trialLine.gatherRows();
                return trialLine.rows;
            case 3:
                return trialLine.spotsAllAbove();
            case 4:
                return trialLine.rootless();
            default:
                return isPolynomial(what - 10) ? trialLine.rootsOf[what - 10] : NONE;
        }
    }

    // ---- 2 roots

    public int called(int p, int i) {
        if (!isRoot(p, i)) {
            return UNKNOWN;
        }
        return now.nameOf(p, i);
    }

    public int byName(int p, int name) {
        if (!isPolynomial(p)) {
            return UNKNOWN;
        }
        if (!isBelow(name, NAMES)) {
            return OUTSIDE;
        }
        for (int i = 0; i < now.rootsOf[p]; i++) {
            if (now.nameOf(p, i) == name) {
                return i;
            }
        }
        return NONE;
    }

    public int signAt(int p, int i, int q) {
        if (!isRoot(p, i) || !isPolynomial(q)) {
            return UNKNOWN;
        }
        return now.signAtRoot(q, 0, p * ROOTS_EACH + i) + 1;
    }

    public int more(int p, int q) {
        if (!isPolynomial(p) || !isPolynomial(q)) {
            return UNKNOWN;
        }
        int sum = 0;
        for (int i = 0; i < now.rootsOf[p]; i++) {
            sum += now.signAtRoot(q, 0, p * ROOTS_EACH + i);
        }
        return sum + 2;
    }

    public int place(int p, int i) {
        if (!isRoot(p, i)) {
            return UNKNOWN;
        }
        return now.numberOf(p, i);
    }

    public int sharers(int k) {
        if (told.count == 0) {
            return STATE;
        }
        if (!isBelow(k, now.unlike)) {
            return UNKNOWN;
        }
        return now.bearers[k];
    }

    // ---- 3 the line

    public int line(int what) {
        if (!isBelow(what, 3)) {
            return OUTSIDE;
        }
        if (told.count == 0) {
            return STATE;
        }
        if (what == 0) {
            return now.unlike;
        }
        if (what == 1) {
            return now.spots();
        }
        now.gatherRows();
        return now.rows;
    }

    public int signIn(int k, int p) {
        if (!isPolynomial(p) || !isBelow(k, now.spots())) {
            return UNKNOWN;
        }
        return now.signInSpot(k, p) + 1;
    }

    public int ofRow(int r, int what) {
        // Without POLYNOMIALS there is no line, so no ROW either, not even one without SIGNS.
        if (told.count == 0) {
            return UNKNOWN;
        }
        now.gatherRows();
        if (!isBelow(r, now.rows)) {
            return UNKNOWN;
        }
        if (what == 0) {
            return now.rowFirst[r];
        }
        if (what == 1) {
            return now.rowSpots[r];
        }
        if (what < 10 || what >= 10 + MOST_POLYNOMIALS) {
            return OUTSIDE;
        }
        return isPolynomial(what - 10) ? now.signInSpot(now.rowFirst[r], what - 10) + 1 : NONE;
    }

    public int wish(int sheet, int lane, int i) {
        latestFault = NO_FAULT;
        if (told.count == 0) {
            return STATE;
        }
        if (!isSheet(sheet)) {
            return UNKNOWN;
        }
        if (!isBelow(lane, LANES)) {
            return OUTSIDE;
        }
        Sheet s = sheets[sheet];
        int fault = faultOfCells(s, lane, i, told.count);
        if (fault != NO_FAULT) {
            return failed(fault);
        }
        int[] cells = s.cells;
        for (int p = 0; p < told.count; p++) {
            if (cells[i + p] < 0 || cells[i + p] > WHICHEVER) {
                return OUTSIDE;
            }
        }
        for (int k = 0; k < now.spots(); k++) {
            if (meetsWish(k, cells, i)) {
                return k;
            }
        }
        return NONE;
    }

    private boolean meetsWish(int k, int[] cells, int from) {
        for (int p = 0; p < told.count; p++) {
            int wished = cells[from + p];
            if (wished != WHICHEVER && wished != now.signInSpot(k, p) + 1) {
                return false;
            }
        }
        return true;
    }

    // ---- 4 which signs

    public int reading(int k, int p, int sign) {
        if (!isPolynomial(p)) {
            return UNKNOWN;
        }
        if (k < 0 || k > LAST_SPOT_READ || !isBelow(sign, SIGNS)) {
            return OUTSIDE;
        }
        if (readings.count >= MOST_READINGS) {
            return FULL;
        }
        return readings.add(k, p, sign);
    }

    public int back(int n) {
        if (n < 0 || n > readings.count) {
            return OUTSIDE;
        }
        readings.count -= n;
        return readings.count;
    }

    public int kinds(int p) {
        if (!isPolynomial(p)) {
            return UNKNOWN;
        }
        int set = 0;
        trial.become(told);
        for (int kind = 0; kind < KINDS; kind++) {
            trial.kindOf[p] = kind;
            trialLine.lay(trial);
            if (readings.holdOn(trialLine)) {
                set |= 1 << kind;
            }
        }
        return set;
    }

    public int lows(int p) {
        if (!isPolynomial(p)) {
            return UNKNOWN;
        }
        int set = 0;
        trial.become(told);
        for (int low = -LARGEST; low <= LARGEST; low++) {
            trial.numbers[p * COEFFICIENTS] = low;
            trialLine.lay(trial);
            if (readings.holdOn(trialLine)) {
                set |= 1 << (low + LARGEST);
            }
        }
        return set;
    }

    public long odds(int p, int sign, int which) {
        if (!isPolynomial(p) || !isBelow(sign, SIGNS) || !isBelow(which, 2)) {
            return LOST;
        }
        int all = now.spots();
        int such = 0;
        for (int k = 0; k < all; k++) {
            if (now.signInSpot(k, p) + 1 == sign) {
                such++;
            }
        }
        int common = commonDivisor(such, all);
        return which == 0 ? such / common : all / common;
    }

    private static int commonDivisor(int upper, int lower) {
        for (int d = lower; d > 1; d--) {
            if (upper % d == 0 && lower % d == 0) {
                return d;
            }
        }
        return 1;
    }

    // ---- 5 sheets, parts

    public int sheet(int k, int lane, int n) {
        latestFault = NO_FAULT;
        if (!isSheet(k)) {
            return UNKNOWN;
        }
        if (!isBelow(lane, LANES) || n > MOST_CELLS) {
            return OUTSIDE;
        }
        if (n < 0) {
            return failed(SIZE_FAULT);
        }
        sheets[k] = new Sheet(lane, n);
        return 1;
    }

    public int lose(int k) {
        if (!isSheet(k)) {
            return UNKNOWN;
        }
        int had = sheets[k] == null ? 0 : 1;
        sheets[k] = null;
        return had;
    }

    public int put(int k, int i, int v) {
        latestFault = NO_FAULT;
        if (!isSheet(k)) {
            return UNKNOWN;
        }
        Sheet s = sheets[k];
        if (s == null) {
            return failed(NULL_FAULT);
        }
        if (!isBelow(i, s.cells.length)) {
            return failed(INDEX_FAULT);
        }
        s.cells[i] = s.cut(v);
        return 1;
    }

    public long cell(int k, int i, int lane) {
        latestFault = NO_FAULT;
        if (!isSheet(k) || !isBelow(lane, LANES)) {
            return LOST;
        }
        Sheet s = sheets[k];
        latestFault = faultOfCells(s, lane, i, 1);
        return latestFault == NO_FAULT ? s.cells[i] : LOST;
    }

    public int copy(int k, int i, int other, int j, int n) {
        latestFault = NO_FAULT;
        if (!isSheet(k) || !isSheet(other)) {
            return UNKNOWN;
        }
        Sheet from = sheets[k];
        Sheet to = sheets[other];
        if (from == null || to == null) {
            return failed(NULL_FAULT);
        }
        if (from.lane != to.lane) {
            return failed(CAST_FAULT);
        }
        if (!from.hasCells(i, n) || !to.hasCells(j, n)) {
            return failed(INDEX_FAULT);
        }
        System.arraycopy(from.cells, i, to.cells, j, n);
        return n;
    }

    public int tell(int p) {
        if (!isPolynomial(p)) {
            return UNKNOWN;
        }
        switch (told.kindOf[p]) {
            case SHIFTED:
                return shiftedBody(p);
            case MIRRORED:
                return mirroredBody(p);
            default:
                return plainBody(p);
        }
    }

    private int plainBody(int p) {
        leaveInTrace(1);
        return now.rootsOf[p];
    }

    private int mirroredBody(int p) {
        leaveInTrace(2);
        return plainBody(p) + 100;
    }

    private int shiftedBody(int p) {
        leaveInTrace(3);
        int mirrored = mirroredBody(p);
        int plain = plainBody(p);
        return mirrored + plain;
    }

    public int call(int p) {
        if (!isPolynomial(p)) {
            return UNKNOWN;
        }
        if (told.kindOf[p] == SHIFTED) {
            leaveInTrace(5);
            return 60;
        }
        leaveInTrace(4);
        return p;
    }

    private void leaveInTrace(int body) {
        traced = 31 * traced + body;
    }

    public int as(int p, int kind) {
        latestFault = NO_FAULT;
        if (!isPolynomial(p)) {
            return UNKNOWN;
        }
        if (!isBelow(kind, KINDS)) {
            return OUTSIDE;
        }
        // Each kind is one of every kind ahead of it, too.
        return told.kindOf[p] >= kind ? 1 : failed(CAST_FAULT);
    }

    public int trace() {
        return traced;
    }

    public int fault() {
        return latestFault;
    }

    public int many(int what) {
        switch (what) {
            case 0:
                return told.count;
            case 1:
                return now.rootsInAll();
            case 2:
                return now.zeroes();
            case 3:
                return readings.count;
            default:
                return OUTSIDE;
        }
    }

    // ---- what several calls look at

    private static boolean isBelow(int number, int bound) {
        return number >= 0 && number < bound;
    }

    private static boolean isSheet(int k) {
        return isBelow(k, SHEETS);
    }

    private static boolean isNumber(int v) {
        return v >= -LARGEST && v <= LARGEST;
    }

    private boolean isPolynomial(int p) {
        return isBelow(p, told.count);
    }

    private boolean isRoot(int p, int i) {
        return isPolynomial(p) && isBelow(i, now.rootsOf[p]);
    }

    private int failed(int fault) {
        latestFault = fault;
        return -10 - fault;
    }

    /** The first FAULT of taking n cells from i on of what a SHEET has, as a row of a LANE. */
    private static int faultOfCells(Sheet s, int lane, int i, int n) {
        if (s == null) {
            return NULL_FAULT;
        }
        if (s.lane != lane) {
            return CAST_FAULT;
        }
        if (n < 0) {
            return SIZE_FAULT;
        }
        return s.hasCells(i, n) ? NO_FAULT : INDEX_FAULT;
    }

    /** A row of numbers of a LANE. */
    private static final class Sheet {
        final int lane;
        final int[] cells;

        Sheet(int lane, int n) {
            this.lane = lane;
            this.cells = new int[n];
        }

        int cut(int v) {
            if (lane == BYTES) {
                return (byte) v;
            }
            return lane == SHORTS ? (short) v : v;
        }

        boolean hasCells(int i, int n) {
            return i >= 0 && i <= cells.length && n >= 0 && n <= cells.length - i;
        }
    }

    /** POLYNOMIALS as they are told: kinds and COEFFICIENTS. */
    private static final class Told {
        int count;
        final int[] kindOf = new int[MOST_POLYNOMIALS];
        final int[] numbers = new int[MOST_POLYNOMIALS * COEFFICIENTS];

        void become(Told other) {
            count = other.count;
            System.arraycopy(other.kindOf, 0, kindOf, 0, kindOf.length);
            System.arraycopy(other.numbers, 0, numbers, 0, numbers.length);
        }

        /** COEFFICIENT k of what POLYNOMIAL p IS. */
        int exact(int p, int k) {
            int first = numbers[p * COEFFICIENTS];
            int second = numbers[p * COEFFICIENTS + 1];
            int third = numbers[p * COEFFICIENTS + 2];
            if (kindOf[p] != PLAIN) {
                second = -second;
            }
            if (kindOf[p] == SHIFTED) {
                // x and 1 together in place of x, multiplied out
                first = first + second + third;
                second = second + 2 * third;
            }
            if (k == 0) {
                return first;
            }
            return k == 1 ? second : third;
        }
    }

    /** Takes a TEXT code by code, into a draft. */
    private static final class TextReader {
        private static final int HEAD = 0, MARK = 1, LETTER = 2, NUMBER = 3, DIGIT = 4;

        final Told draft = new Told();
        private int step;
        private int coefficient;
        private boolean dashed;

        /** The FIRST FAULT; NONE: it is a TEXT, and the draft has it. */
        int firstFault(int[] cells, int from, int n) {
            draft.count = 0;
            step = HEAD;
            for (int at = 0; at < n; at++) {
                if (!goesOnWith(cells[from + at])) {
                    return at;
                }
            }
            return step == MARK && draft.count > 0 ? NONE : n;
        }

        private boolean goesOnWith(int code) {
            switch (step) {
                case HEAD:
                    step = MARK;
                    return code == 'p';
                case MARK:
                    step = LETTER;
                    return code == ';' && draft.count < MOST_POLYNOMIALS;
                case LETTER:
                    return takesLetter(code);
                case NUMBER:
                    dashed = code == '-';
                    if (dashed) {
                        step = DIGIT;
                        return true;
                    }
                    return takesDigit(code);
                default:
                    return takesDigit(code);
            }
        }

        private boolean takesLetter(int code) {
            int kind = code == 'p' ? PLAIN : code == 'm' ? MIRRORED : code == 's' ? SHIFTED : NONE;
            if (kind == NONE) {
                return false;
            }
            draft.kindOf[draft.count] = kind;
            coefficient = 0;
            step = NUMBER;
            return true;
        }

        private boolean takesDigit(int code) {
            if (code < '0' || code > '9') {
                return false;
            }
            int number = code - '0';
            draft.numbers[draft.count * COEFFICIENTS + coefficient] = dashed ? -number : number;
            coefficient++;
            step = NUMBER;
            if (coefficient == COEFFICIENTS) {
                draft.count++;
                step = MARK;
            }
            return true;
        }
    }

    /** READINGS, in the order in which they came. */
    private static final class Readings {
        int count;
        private final int[] spot = new int[MOST_READINGS];
        private final int[] polynomial = new int[MOST_READINGS];
        private final int[] seen = new int[MOST_READINGS];

        int add(int k, int p, int sign) {
            spot[count] = k;
            polynomial[count] = p;
            seen[count] = sign;
            count++;
            return count - 1;
        }

        boolean holdOn(Line l) {
            for (int r = 0; r < count; r++) {
                if (spot[r] >= l.spots() || l.signInSpot(spot[r], polynomial[r]) + 1 != seen[r]) {
                    return false;
                }
            }
            return true;
        }
    }

    /**
     * What POLYNOMIALS make of the line: their ROOTS, and these in order.
     *
     * <p>ROOT i of POLYNOMIAL p is kept at 2 p + i, as (middle + side * square root of under) / below:
     * whole numbers, below is above 0, side is -1, 0 or 1, and under is 0 where side is 0.
     */
    private static final class Line {
        private int count;
        private final int[] exact = new int[MOST_POLYNOMIALS * COEFFICIENTS];
        final int[] rootsOf = new int[MOST_POLYNOMIALS];
        private final int[] middle = new int[MOST_ROOTS];
        private final int[] side = new int[MOST_ROOTS];
        private final int[] under = new int[MOST_ROOTS];
        private final int[] below = new int[MOST_ROOTS];

        /** How many ALL ROOTS are; of each, where one that is this number is kept, and who has it. */
        int unlike;
        private final int[] keptAt = new int[MOST_ROOTS];
        final int[] bearers = new int[MOST_ROOTS];

        /** ROWS, as gatherRows() found them last. */
        int rows;
        private final int[] rowSigns = new int[MOST_SPOTS];
        final int[] rowFirst = new int[MOST_SPOTS];
        final int[] rowSpots = new int[MOST_SPOTS];

        void lay(Told t) {
            count = t.count;
            unlike = 0;
            for (int p = 0; p < count; p++) {
                for (int k = 0; k < COEFFICIENTS; k++) {
                    exact[p * COEFFICIENTS + k] = t.exact(p, k);
                }
                findRoots(p);
                for (int i = 0; i < rootsOf[p]; i++) {
                    enterInOrder(p, i);
                }
            }
        }

        private void findRoots(int p) {
            int a = exact[p * COEFFICIENTS];
            int b = exact[p * COEFFICIENTS + 1];
            int c = exact[p * COEFFICIENTS + 2];
            rootsOf[p] = 0;
            // A polynomial and 0 less it have the same roots: the one that rises last is solved.
            if (c < 0 || c == 0 && b < 0) {
                a = -a;
                b = -b;
                c = -c;
            }
            if (c == 0) {
                if (b > 0) {
                    keepRoot(p, -a, 0, 0, b);
                }
                return;
            }
            int d = b * b - 4 * a * c;
            if (d == 0) {
                keepRoot(p, -b, 0, 0, 2 * c);
            }
            if (d > 0) {
                keepRoot(p, -b, -1, d, 2 * c);
                keepRoot(p, -b, 1, d, 2 * c);
            }
        }

        private void keepRoot(int p, int m, int s, int d, int e) {
            int at = p * ROOTS_EACH + rootsOf[p];
            middle[at] = m;
            side[at] = s;
            under[at] = d;
            below[at] = e;
            rootsOf[p]++;
        }

        private void enterInOrder(int p, int i) {
            int at = p * ROOTS_EACH + i;
            int k = 0;
            int order = 1;
            while (k < unlike) {
                order = compare(at, keptAt[k]);
                if (order <= 0) {
                    break;
                }
                k++;
            }
            if (order == 0) {
                bearers[k] |= 1 << p;
                return;
            }
            for (int later = unlike; later > k; later--) {
                keptAt[later] = keptAt[later - 1];
                bearers[later] = bearers[later - 1];
            }
            keptAt[k] = at;
            bearers[k] = 1 << p;
            unlike++;
        }

        /**
         * The sign of the ROOT at a place less the ROOT y at another. The signs, at the first one, of
         * the POLYNOMIAL that y is of and of its derivative tell on which side of y that one is.
         */
        private int compare(int at, int y) {
            int q = y / ROOTS_EACH;
            int c = Integer.signum(exact[q * COEFFICIENTS + 2]);
            int own = signAtRoot(q, 0, at);
            int slope = signAtRoot(q, 1, at);
            if (c == 0) {
                return own * slope;
            }
            int sideOfVertex = slope * c;
            // Before its lesser root and behind its greater one, it has the sign of c.
            int outer = own * c;
            if (side[y] == 0) {
                return sideOfVertex;
            }
            if (side[y] < 0) {
                return sideOfVertex < 0 ? -outer : 1;
            }
            return sideOfVertex > 0 ? outer : -1;
        }

        /** The sign of POLYNOMIAL q (order 0), or of its first or second derivative, at the ROOT at a place. */
        int signAtRoot(int q, int order, int at) {
            int a = exact[q * COEFFICIENTS];
            int b = exact[q * COEFFICIENTS + 1];
            int c = exact[q * COEFFICIENTS + 2];
            if (order == 2) {
                return Integer.signum(c);
            }
            // u + v x + w x x, the polynomial or its first derivative
            long u = order == 0 ? a : b;
            long v = order == 0 ? b : 2 * c;
            long w = order == 0 ? c : 0;
            long m = middle[at];
            long d = under[at];
            long e = below[at];
            // All of it times e e, which is above 0, so that no fraction is left.
            long whole = u * e * e + v * e * m + w * (m * m + d);
            long radical = side[at] * (v * e + 2 * w * m);
            return signOfSum(whole, radical, d);
        }

        /** The sign of whole + radical * square root of d, by squares where the two pull apart. */
        private static int signOfSum(long whole, long radical, long d) {
            int one = Long.signum(whole);
            int other = d == 0 ? 0 : Long.signum(radical);
            if (one * other >= 0) {
                return one == 0 ? other : one;
            }
            long excess = whole * whole - radical * radical * d;
            if (excess == 0) {
                return 0;
            }
            return excess > 0 ? one : other;
        }

        int nameOf(int p, int i) {
            int at = p * ROOTS_EACH + i;
            return (signAtRoot(p, 1, at) + 1) * 3 + signAtRoot(p, 2, at) + 1;
        }

        /** The number of ROOT i of POLYNOMIAL p among ALL ROOTS. */
        int numberOf(int p, int i) {
            for (int k = 0; k < unlike; k++) {
                if (compare(p * ROOTS_EACH + i, keptAt[k]) == 0) {
                    return k;
                }
            }
            return NONE;
        }

        int spots() {
            return 2 * unlike + 1;
        }

        int signInSpot(int k, int q) {
            if (k == 0) {
                return signAheadOfAll(q);
            }
            int at = keptAt[(k - 1) / 2];
            int there = signAtRoot(q, 0, at);
            if (k % 2 == 1 || there != 0) {
                return there;
            }
            // Just behind its own root a polynomial has the sign of the first derivative that isn't 0.
            int slope = signAtRoot(q, 1, at);
            return slope != 0 ? slope : signAtRoot(q, 2, at);
        }

        private int signAheadOfAll(int q) {
            int b = exact[q * COEFFICIENTS + 1];
            int c = exact[q * COEFFICIENTS + 2];
            if (c != 0) {
                return Integer.signum(c);
            }
            return b != 0 ? -Integer.signum(b) : Integer.signum(exact[q * COEFFICIENTS]);
        }

        void gatherRows() {
            rows = 0;
            for (int k = 0; k < spots(); k++) {
                int signs = signsIn(k);
                int r = rowWith(signs);
                if (r == rows) {
                    rowSigns[r] = signs;
                    rowFirst[r] = k;
                    rowSpots[r] = 0;
                    rows++;
                }
                rowSpots[r]++;
            }
        }

        /** The ROW of a SPOT as one number. */
        private int signsIn(int k) {
            int signs = 0;
            for (int q = 0; q < count; q++) {
                signs = signs * SIGNS + signInSpot(k, q) + 1;
            }
            return signs;
        }

        private int rowWith(int signs) {
            for (int r = 0; r < rows; r++) {
                if (rowSigns[r] == signs) {
                    return r;
                }
            }
            return rows;
        }

        int spotsAllAbove() {
            int found = 0;
            for (int k = 0; k < spots(); k++) {
                if (isAllAbove(k)) {
                    found++;
                }
            }
            return found;
        }

        private boolean isAllAbove(int k) {
            for (int q = 0; q < count; q++) {
                if (signInSpot(k, q) <= 0) {
                    return false;
                }
            }
            return true;
        }

        int rootsInAll() {
            int sum = 0;
            for (int p = 0; p < count; p++) {
                sum += rootsOf[p];
            }
            return sum;
        }

        int rootless() {
            int found = 0;
            for (int p = 0; p < count; p++) {
                if (rootsOf[p] == 0) {
                    found++;
                }
            }
            return found;
        }

        int zeroes() {
            int found = 0;
            for (int p = 0; p < count; p++) {
                int at = p * COEFFICIENTS;
                if (exact[at] == 0 && exact[at + 1] == 0 && exact[at + 2] == 0) {
                    found++;
                }
            }
            return found;
        }
    }
}
