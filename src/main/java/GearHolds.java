/**
 * A gearbox that shifts itself. What each call promises stands in ../shared/DOC.md; words in
 * capitals here are the terms of that document.
 */
public final class GearHolds {
    public static final int NONE = -1, BAD = -2, NO = -3, FULL = -4;

    private static final int GEARS = 7, CLUTCHES = 5, NEUTRAL = 0, ALL_CLUTCHES = 31;
    private static final int OPEN = 1, SHUT = 2;
    private static final int FASTEST = 300, MOST_TICKS = 60, LAST_TICK = 40, WHOLE = 1000;
    private static final int HUNT_TICKS = 5, HOLD_TICKS = 10;
    private static final int NO_WAY = -5, FAULT_FROM = -10, STOPPED_FROM = -1000;

    /* All that a STATE goes back to stands in one row, so that to keep it is one copy. */
    private static final int SET = 0, UP = 8, DOWN = 16, STATUS = 24, TRUE = 29, FILL = 34;
    private static final int IN = 39, TIME = 40, HOLD = 41, LAST_UP = 42, SHIFTS = 43;
    private static final int FLARES = 44, BINDS = 45, HUNTS = 46;
    /* SLOPE is held 3 more than it is, as it is answered: so no answer looks like a refusal. */
    private static final int SLOPE = 47, DRIVER = 48, RAMP = 49, LIMIT = 50, ROW = 51;
    private static final int LEVEL = 3;

    /* The first eight stand in the order of LETTERS. */
    private static final int GEAR_ORDER = 0, FAILS_ORDER = 1, TRUES_ORDER = 2, UP_ORDER = 3,
            DOWN_ORDER = 4, SLOPE_ORDER = 5, DRIVER_ORDER = 6, DRIVES_ORDER = 7,
            SETS_ORDER = 8, PUTS_ORDER = 9;
    private static final String LETTERS = "gftudsrv";

    private final int[] row = new int[ROW];
    private final int[] refused = new int[3];
    private final Gears gears = new Gears(row);
    private final Shifts shifts = new Shifts(row);
    private final Driving driving = new Driving(row, gears, shifts);
    private final Orders orders = new Orders(row, gears, driving);
    private final States states = new States(row);
    private final Text text = new Text();
    private int causeKind = 0;
    private int causeOrder = NONE;

    public GearHolds() {
        for (int g = 1; g <= GEARS; g++) {
            row[UP + g] = 20 * g;
            row[DOWN + g] = 20 * g - 15;
        }
        for (int c = 0; c < CLUTCHES; c++) {
            row[TRUE + c] = 8;
            row[FILL + c] = 8;
        }
        row[LAST_UP] = NONE;
        row[SLOPE] = LEVEL;
        row[RAMP] = 5;
        row[LIMIT] = 100;
    }

    // ---- gears and clutches

    public int gear(int g, int v) {
        return changed(GEAR_ORDER, g, v);
    }

    public int fails(int c, int v) {
        return changed(FAILS_ORDER, c, v);
    }

    public int trues(int c, int v) {
        return changed(TRUES_ORDER, c, v);
    }

    public int up(int g, int v) {
        return changed(UP_ORDER, g, v);
    }

    public int down(int g, int v) {
        return changed(DOWN_ORDER, g, v);
    }

    public int slope(int v) {
        return changed(SLOPE_ORDER, v, 0);
    }

    public int driver(int v) {
        return changed(DRIVER_ORDER, v, 0);
    }

    public int sets(int what, int v) {
        return changed(SETS_ORDER, what, v);
    }

    public int of(int g, int what) {
        if (!isGear(g)) {
            return refusal(BAD);
        }
        switch (what) {
            case 0: return row[SET + g];
            case 1: return gears.isFit(g) ? 1 : 0;
            case 2: return row[UP + g];
            case 3: return row[DOWN + g];
            case 4: return gears.countSimple(g);
            default: return refusal(BAD);
        }
    }

    public int clutch(int c, int what) {
        if (!isClutch(c)) {
            return refusal(BAD);
        }
        switch (what) {
            case 0: return row[STATUS + c];
            case 1: return row[TRUE + c];
            case 2: return row[FILL + c];
            case 3: return gears.countClosing(c);
            default: return refusal(BAD);
        }
    }

    public int ties(int v) {
        if (!isWithin(v, 0, ALL_CLUTCHES)) {
            return refusal(BAD);
        }
        return gears.countWithin(v) >= 2 ? 1 : 0;
    }

    // ---- shifts

    public int simple(int g, int k, int what) {
        if (!arePair(g, k)) {
            return refusal(BAD);
        }
        switch (what) {
            case 0: return gears.isSimple(g, k) ? 1 : 0;
            case 1: return gears.coming(g, k);
            case 2: return gears.coming(k, g);
            default: return refusal(BAD);
        }
    }

    public int way(int g, int k, int i) {
        if (!arePair(g, k) || i < NONE) {
            return refusal(BAD);
        }
        if (!gears.isFit(g) || !gears.isFit(k)) {
            return refusal(NO);
        }
        int steps = gears.findWay(g, k);
        if (steps == 0 || i >= steps) {
            return NO_WAY;
        }
        return i == NONE ? steps : gears.onWay(i);
    }

    public int over(int g, int k, int t) {
        if (!arePair(g, k) || !isWithin(t, 0, LAST_TICK)) {
            return refusal(BAD);
        }
        int c = gears.coming(g, k);
        return isClutch(c) ? shifts.overAt(c, t) + WHOLE : refusal(NO);
    }

    public int worst(int g, int k, int what) {
        if (!arePair(g, k) || !isWithin(what, 0, 1)) {
            return refusal(BAD);
        }
        int c = gears.coming(g, k);
        if (!isClutch(c)) {
            return refusal(NO);
        }
        return what == 0 ? shifts.flare(c) : shifts.bind(c);
    }

    // ---- driving

    public int want(int v) {
        return isWithin(v, 0, FASTEST) ? driving.wanted(v) : refusal(BAD);
    }

    public int drives(int v, int n) {
        return changed(DRIVES_ORDER, v, n);
    }

    public int puts(int g) {
        return changed(PUTS_ORDER, g, 0);
    }

    public int state(int what) {
        if (what == 12) {
            return gears.fitBits();
        }
        return isWithin(what, 0, 11) ? row[IN + what] : refusal(BAD);
    }

    // ---- texts

    public int type(int c) {
        if (!isWithin(c, 0, 127)) {
            return refusal(BAD);
        }
        return text.append(c) ? text.length() : refusal(FULL);
    }

    public int clear() {
        return text.empty();
    }

    public int reads() {
        int fault = text.parse();
        if (fault != NONE) {
            return FAULT_FROM - fault;
        }
        states.draft();
        for (int i = 0; i < text.orders(); i++) {
            int answer = orders.obey(text.kindOf(i), text.firstOf(i), text.secondOf(i));
            if (answer < 0) {
                states.takeDraft();
                causeKind = -answer;
                causeOrder = i;
                return STOPPED_FROM - i;
            }
        }
        states.keepDraft();
        return text.orders();
    }

    public int why(int what) {
        if (!isWithin(what, 0, 1)) {
            return refusal(BAD);
        }
        return what == 0 ? causeKind : causeOrder;
    }

    public int back() {
        return states.goBack() ? states.count() : refusal(NO);
    }

    public int told(int what) {
        switch (what) {
            case 0:
            case 1:
            case 2: return refused[what];
            case 3: return text.length();
            case 4: return states.count();
            default: return refusal(BAD);
        }
    }

    public long digest() {
        long h = 2411;
        for (int what = 0; what <= 4; what++) {
            h = 31 * h + told(what);
        }
        for (int what = 0; what <= 1; what++) {
            h = 31 * h + why(what);
        }
        for (int g = 1; g <= GEARS; g++) {
            for (int what = 0; what <= 4; what++) {
                h = 31 * h + of(g, what);
            }
        }
        for (int c = 0; c < CLUTCHES; c++) {
            for (int what = 0; what <= 3; what++) {
                h = 31 * h + clutch(c, what);
            }
        }
        for (int what = 0; what <= 12; what++) {
            h = 31 * h + state(what);
        }
        return h;
    }

    /** Does one order as a call of its own: a STATE is left, or the refusal counted. */
    private int changed(int order, int a, int b) {
        states.draft();
        int answer = orders.obey(order, a, b);
        if (answer < 0) {
            return refusal(answer);
        }
        states.keepDraft();
        return answer;
    }

    /** Counts a refusal and hands it on. */
    private int refusal(int kind) {
        if (isWithin(kind, FULL, BAD)) {
            refused[BAD - kind]++;
        }
        return kind;
    }

    private static boolean isWithin(int v, int least, int most) {
        return v >= least && v <= most;
    }

    private static boolean isGear(int g) {
        return g >= 1 && g <= GEARS;
    }

    private static boolean isClutch(int c) {
        return c >= 0 && c < CLUTCHES;
    }

    private static boolean arePair(int g, int k) {
        return isGear(g) && isGear(k) && g != k;
    }

    /** What the SETS and the STATES of the CLUTCHES make of the GEARS: FIT, SIMPLE, the WAY. */
    private static final class Gears {
        private final int[] row;
        /* Of the last WAY looked for: how many SHIFTS each GEAR is from its end, and its GEARS. */
        private final int[] away = new int[GEARS + 1];
        private final int[] path = new int[GEARS];

        Gears(int[] row) {
            this.row = row;
        }

        boolean isFit(int g) {
            if (g < 1 || g > GEARS || row[SET + g] == 0) {
                return false;
            }
            for (int c = 0; c < CLUTCHES; c++) {
                boolean closes = (row[SET + g] >> c & 1) == 1;
                if (row[STATUS + c] == (closes ? OPEN : SHUT)) {
                    return false;
                }
            }
            return true;
        }

        int fitBits() {
            int bits = 0;
            for (int g = 1; g <= GEARS; g++) {
                if (isFit(g)) {
                    bits |= 1 << g;
                }
            }
            return bits;
        }

        /** The next FIT GEAR from g on by steps of 1 or -1, NEUTRAL if there is none. */
        int nextFit(int g, int step) {
            int h = g;
            for (int i = 0; i < GEARS; i++) {
                h += step;
                if (isFit(h)) {
                    return h;
                }
            }
            return NEUTRAL;
        }

        boolean isSimple(int g, int k) {
            return isFit(g) && isFit(k) && swapsOne(row[SET + g], row[SET + k]);
        }

        /** COMING of the SHIFT from g to k, NONE if they are not SIMPLE; GOING is that from k to g. */
        int coming(int g, int k) {
            if (!isSimple(g, k)) {
                return NONE;
            }
            return Integer.numberOfTrailingZeros(row[SET + k] & ~row[SET + g]);
        }

        int countSimple(int g) {
            int count = 0;
            for (int k = 1; k <= GEARS; k++) {
                if (isSimple(g, k)) {
                    count++;
                }
            }
            return count;
        }

        int countClosing(int c) {
            int count = 0;
            for (int g = 1; g <= GEARS; g++) {
                count += row[SET + g] >> c & 1;
            }
            return count;
        }

        /** How many GEARS that are THERE have their SETS within a set of CLUTCHES. */
        int countWithin(int clutches) {
            int count = 0;
            for (int g = 1; g <= GEARS; g++) {
                if (row[SET + g] != 0 && (row[SET + g] & ~clutches) == 0) {
                    count++;
                }
            }
            return count;
        }

        boolean isTaken(int g, int set) {
            for (int k = 1; k <= GEARS; k++) {
                if (k != g && set != 0 && row[SET + k] == set) {
                    return true;
                }
            }
            return false;
        }

        /** Looks for the WAY between two unlike FIT GEARS: how many GEARS it has, 0 if there is none. */
        int findWay(int from, int to) {
            int fit = fitBits();
            for (int g = 1; g <= GEARS; g++) {
                away[g] = g == to ? 0 : NONE;
            }
            for (int far = 0; far < GEARS - 1; far++) {
                for (int g = 1; g <= GEARS; g++) {
                    boolean open = away[g] == NONE && (fit >> g & 1) == 1;
                    if (open && nearer(g, far) != NEUTRAL) {
                        away[g] = far + 1;
                    }
                }
            }
            int steps = isGear(from) ? Math.max(0, away[from]) : 0;
            int g = from;
            for (int i = 0; i < steps; i++) {
                g = nearer(g, steps - i - 1);
                path[i] = g;
            }
            return steps;
        }

        int onWay(int i) {
            return i >= 0 && i < GEARS ? path[i] : NONE;
        }

        /** The least GEAR that is so far away and one SHIFT from g: so like WAYS go by numbers. */
        private int nearer(int g, int far) {
            for (int k = 1; k <= GEARS; k++) {
                if (away[k] == far && swapsOne(row[SET + g], row[SET + k])) {
                    return k;
                }
            }
            return NEUTRAL;
        }

        private static boolean swapsOne(int a, int b) {
            return Integer.bitCount(a & ~b) == 1 && Integer.bitCount(b & ~a) == 1;
        }
    }

    /** The overlap of the CLUTCH that comes with the one that goes, and what is learnt from it. */
    private static final class Shifts {
        private final int[] row;

        Shifts(int[] row) {
            this.row = row;
        }

        /** OVER of any SHIFT of which c is COMING: nothing of it hangs on the one that goes. */
        int overAt(int c, int t) {
            if (!isClutch(c)) {
                return 0;
            }
            int ramp = Math.max(1, row[RAMP]);
            int filled = WHOLE * (t - row[TRUE + c]) / ramp;
            int held = WHOLE * (t - row[FILL + c]) / ramp;
            int coming = Math.min(WHOLE, Math.max(0, filled));
            int going = WHOLE - Math.min(WHOLE, Math.max(0, held));
            return coming + going - WHOLE;
        }

        int flare(int c) {
            int least = 0;
            for (int t = 0; t <= LAST_TICK; t++) {
                least = Math.min(least, overAt(c, t));
            }
            return -least;
        }

        int bind(int c) {
            int greatest = 0;
            for (int t = 0; t <= LAST_TICK; t++) {
                greatest = Math.max(greatest, overAt(c, t));
            }
            return greatest;
        }

        /** Does a SHIFT of which c is COMING. */
        void learn(int c) {
            if (!isClutch(c)) {
                return;
            }
            row[SHIFTS]++;
            if (flare(c) > row[LIMIT]) {
                row[FLARES]++;
                row[FILL + c] = Math.min(20, row[FILL + c] + 1);
            } else if (bind(c) > row[LIMIT]) {
                row[BINDS]++;
                row[FILL + c] = Math.max(1, row[FILL + c] - 1);
            }
        }
    }

    /** WANT and the TICKS. */
    private static final class Driving {
        private final int[] row;
        private final Gears gears;
        private final Shifts shifts;

        Driving(int[] row, Gears gears, Shifts shifts) {
            this.row = row;
            this.gears = gears;
            this.shifts = shifts;
        }

        int wanted(int v) {
            int in = row[IN];
            if (!isGear(in)) {
                return gears.nextFit(NEUTRAL, 1);
            }
            int added = 5 * (row[SLOPE] - LEVEL) + 10 * row[DRIVER];
            int above = v >= row[UP + in] + added ? gears.nextFit(in, 1) : NEUTRAL;
            if (above != NEUTRAL) {
                return above;
            }
            int below = v < row[DOWN + in] + added ? gears.nextFit(in, -1) : NEUTRAL;
            return below != NEUTRAL ? below : in;
        }

        /* A TICK stands in its loop: as a method more it would take the calls nine deep. */
        int ticks(int v, int n) {
            for (int i = 0; i < n; i++) {
                row[TIME]++;
                row[HOLD] = Math.max(0, row[HOLD] - 1);
                int from = row[IN];
                int to = wanted(v);
                if (from == NEUTRAL) {
                    row[IN] = to;
                } else if (to < from || to > from && row[HOLD] == 0) {
                    int steps = gears.findWay(from, to);
                    for (int step = 0; step < steps; step++) {
                        int next = gears.onWay(step);
                        shifts.learn(gears.coming(row[IN], next));
                        row[IN] = next;
                    }
                    noteTurn(from);
                }
            }
            return row[IN];
        }

        private void noteTurn(int from) {
            if (row[IN] > from) {
                row[LAST_UP] = row[TIME];
            } else if (row[IN] < from && row[LAST_UP] != NONE && row[TIME] - row[LAST_UP] <= HUNT_TICKS) {
                row[HUNTS]++;
                row[HOLD] = HOLD_TICKS;
            }
        }
    }

    /** What changes the gearbox, by a call or by THE TEXT: what was, or why it is refused. */
    private static final class Orders {
        private final int[] row;
        private final Gears gears;
        private final Driving driving;

        Orders(int[] row, Gears gears, Driving driving) {
            this.row = row;
            this.gears = gears;
            this.driving = driving;
        }

        /** A refused order changes nothing. */
        int obey(int order, int a, int b) {
            switch (order) {
                case GEAR_ORDER: return changeSet(a, b);
                case FAILS_ORDER: return changeStatus(a, b);
                case TRUES_ORDER: return replace(isClutch(a) && isWithin(b, 1, 20), TRUE + a, b);
                case UP_ORDER: return replace(isGear(a) && isWithin(b, 0, FASTEST), UP + a, b);
                case DOWN_ORDER: return replace(isGear(a) && isWithin(b, 0, FASTEST), DOWN + a, b);
                case SLOPE_ORDER: return replace(isWithin(a, -LEVEL, LEVEL), SLOPE, a + LEVEL);
                case DRIVER_ORDER: return replace(isWithin(a, 0, 3), DRIVER, a);
                case DRIVES_ORDER: return areTicks(a, b) ? driving.ticks(a, b) : BAD;
                case SETS_ORDER: return changeRule(a, b);
                case PUTS_ORDER: return putIn(a);
                default: return BAD;
            }
        }

        private int changeSet(int g, int v) {
            if (!isGear(g) || !isWithin(v, 0, ALL_CLUTCHES)) {
                return BAD;
            }
            if (gears.isTaken(g, v)) {
                return NO;
            }
            int was = replace(true, SET + g, v);
            dropUnfit();
            return was;
        }

        private int changeStatus(int c, int v) {
            int was = replace(isClutch(c) && isWithin(v, 0, SHUT), STATUS + c, v);
            dropUnfit();
            return was;
        }

        private int changeRule(int what, int v) {
            if (what == 0) {
                return replace(isWithin(v, 1, 12), RAMP, v);
            }
            return replace(what == 1 && isWithin(v, 0, 999), LIMIT, v);
        }

        private static boolean areTicks(int v, int n) {
            return isWithin(v, 0, FASTEST) && isWithin(n, 1, MOST_TICKS);
        }

        private int putIn(int g) {
            if (g != NEUTRAL && !isGear(g)) {
                return BAD;
            }
            return g == NEUTRAL || gears.isFit(g) ? replace(true, IN, g) : NO;
        }

        private int replace(boolean asTold, int place, int v) {
            if (!asTold || place < 0 || place >= ROW) {
                return BAD;
            }
            int was = row[place];
            row[place] = v;
            return was;
        }

        private void dropUnfit() {
            if (!gears.isFit(row[IN])) {
                row[IN] = NEUTRAL;
            }
        }
    }

    /** The STATES to go back to. */
    private static final class States {
        private static final int MOST = 5, ROWS = MOST + 1;
        private final int[] row;
        /* One row more than is kept: a draft that comes to nothing must not cost the oldest. */
        private final int[][] kept = new int[ROWS][ROW];
        private int draft = 0;
        private int count = 0;

        States(int[] row) {
            this.row = row;
        }

        int count() {
            return count;
        }

        void draft() {
            System.arraycopy(row, 0, kept[draft], 0, ROW);
        }

        void keepDraft() {
            draft = (draft + 1) % ROWS;
            count = Math.min(count + 1, MOST);
        }

        void takeDraft() {
            System.arraycopy(kept[draft], 0, row, 0, ROW);
        }

        boolean goBack() {
            if (count == 0) {
                return false;
            }
            count--;
            draft = (draft + ROWS - 1) % ROWS;
            takeDraft();
            return true;
        }
    }

    /** THE TEXT and the ORDERS that it tells. */
    private static final class Text {
        /* The shortest ORDER has three bytes. */
        private static final int MOST = 150, MOST_ORDERS = MOST / 3, FIGURES = 3;
        private final int[] bytes = new int[MOST];
        private final int[] kind = new int[MOST_ORDERS];
        private final int[] first = new int[MOST_ORDERS];
        private final int[] second = new int[MOST_ORDERS];
        private int length = 0;
        private int orders = 0;
        private int at = 0;

        int length() {
            return length;
        }

        boolean append(int c) {
            if (length >= MOST) {
                return false;
            }
            bytes[length] = c;
            length++;
            return true;
        }

        int empty() {
            int had = length;
            length = 0;
            return had;
        }

        int orders() {
            return orders;
        }

        int kindOf(int i) {
            return i >= 0 && i < orders ? kind[i] : NONE;
        }

        int firstOf(int i) {
            return i >= 0 && i < orders ? first[i] : NONE;
        }

        int secondOf(int i) {
            return i >= 0 && i < orders ? second[i] : NONE;
        }

        /** Takes the ORDERS out of THE TEXT: its FAULT, NONE if it has none. */
        int parse() {
            orders = 0;
            at = 0;
            skipBlanks();
            for (int i = 0; i < MOST_ORDERS; i++) {
                if (!parseOrder()) {
                    return at;
                }
                skipBlanks();
                if (at >= length) {
                    return NONE;
                }
            }
            return at;
        }

        /** False, if something can not stand where it does: then that is at. */
        private boolean parseOrder() {
            int letter = next() < 0 ? NONE : LETTERS.indexOf((char) next());
            if (letter < 0) {
                return false;
            }
            at++;
            skipBlanks();
            boolean below = letter == SLOPE_ORDER && next() == '-';
            if (below) {
                at++;
            }
            int a = parseNumber();
            if (a == NONE) {
                return false;
            }
            int b = 0;
            if (letter != SLOPE_ORDER && letter != DRIVER_ORDER) {
                skipBlanks();
                b = parseNumber();
            }
            if (b == NONE) {
                return false;
            }
            skipBlanks();
            if (next() != ';') {
                return false;
            }
            at++;
            addOrder(letter, below ? -a : a, b);
            return true;
        }

        /** The number that begins here, NONE if there is none or if it has a figure too many. */
        private int parseNumber() {
            int value = 0;
            int figures = 0;
            while (figures < FIGURES && isFigure()) {
                value = 10 * value + next() - '0';
                figures++;
                at++;
            }
            return figures == 0 || isFigure() ? NONE : value;
        }

        private void addOrder(int letter, int a, int b) {
            if (orders < MOST_ORDERS) {
                kind[orders] = letter;
                first[orders] = a;
                second[orders] = b;
                orders++;
            }
        }

        private void skipBlanks() {
            while (at < length && next() == ' ') {
                at++;
            }
        }

        private boolean isFigure() {
            return next() >= '0' && next() <= '9';
        }

        /** The byte that is at, NONE behind the last. */
        private int next() {
            return at >= 0 && at < length && at < MOST ? bytes[at] : NONE;
        }
    }
}
