/** Sermons that are taxed by nods. The document shared/DOC.md says what each call answers. */
public final class NodTax {
    public static final int NONE = -6, UNKNOWN = -1, OUTSIDE = -2, STATE = -3, FULL = -4, NO = -5;
    public static final long LOST = -1000000000000000000L;

    private static final int HEARERS = 8;
    private static final int MOST_ROWS = 3;
    private static final int ROW_SEATS = 4;
    private static final int MOST_AWAKE = 20;
    private static final int MOST_DULL = 5;
    private static final int MOST_REACH = 9;
    private static final int MOST_RATE = 9;
    private static final int PAD_SIGNS = 60;
    private static final int FIRST_CODE = 33;
    private static final int LAST_CODE = 126;
    private static final int BIT_MINUTES = 30;
    private static final int SIGHTS = 8;
    private static final int IMAGES = 2;
    private static final int ORDER_SIGNS = 7;
    private static final int PREACHED_SIGNS = 6;
    private static final int COLD_SIGNS = 10;
    private static final int MOST_HIRED_TAX = 999;
    private static final int CHURCHES = 3;
    private static final int MOST_ROUNDS = 99;
    private static final int MOST_SEED = 9999;
    private static final int YEAR_SERMONS = 50;
    private static final int YEAR_MINUTES = 6;
    /** A GAIN may be less than nothing, but an answer below 0 is a refusal. */
    private static final int GAIN_BASE = 10000;
    /** More than any order can lose. */
    private static final int ABOVE_LOSS = 1000000;

    private static final char LONG_WORDS = 'w', HELL = 'h', HOPE = 'o', NAME = 'n', CREED = 'c', START = 's', HYMN = '~';
    private static final char[] BY_CODE = {'c', 'h', 'n', 'o', 's', 'w', '~'};
    private static final char[] BY_DRAW = {'w', 'h', 'o', 'n', 'c', 's', '~'};
    private static final int KINDS = 7;

    /** SEATS as bits: those with nobody before them, or behind them, in their ROW. */
    private static final int ROW_BEGINS = 0x111, ROW_ENDS = 0x888;

    private final Parish parish = new Parish();
    private final Parish trial = new Parish();
    private final Parish[] images = new Parish[IMAGES];
    private final boolean[] kept = new boolean[IMAGES];
    private final Pad pad = new Pad();
    /** One Walk for each minute of a search, so that no call has to make any. */
    private final Walk[] steps = new Walk[COLD_SIGNS + 1];
    private final CheapestOrder cheapest = new CheapestOrder();
    private final FittingOrders fitting = new FittingOrders();
    private final Weather weather = new Weather();
    private final Rivals rivals = new Rivals();
    private final long[] dipRows = new long[HEARERS];

    public NodTax() {
        for (int i = 0; i < IMAGES; i++) {
            images[i] = new Parish();
        }
        for (int i = 0; i <= COLD_SIGNS; i++) {
            steps[i] = new Walk();
        }
    }

    // ---- 1 churches, sermons

    public int church(int rows) {
        if (isOutside(rows, 1, MOST_ROWS)) {
            return OUTSIDE;
        }
        int before = parish.rows;
        parish.rebuild(rows);
        return before;
    }

    public int hearer(int hearer, int seat, int awake, int dull, int creed, boolean upright) {
        if (isOutside(hearer, 0, HEARERS - 1) || isOutside(seat, 0, parish.seats() - 1)) {
            return UNKNOWN;
        }
        if (isOutside(awake, 0, MOST_AWAKE) || isOutside(dull, 0, MOST_DULL) || isOutside(creed, 0, 1)) {
            return OUTSIDE;
        }
        int sitter = parish.sitterAt(seat);
        if (sitter != NONE && sitter != hearer) {
            return STATE;
        }
        parish.seat[hearer] = seat;
        parish.awake[hearer] = awake;
        parish.dull[hearer] = dull;
        parish.creed[hearer] = creed;
        parish.present |= 1 << hearer;
        parish.uprights = upright ? parish.uprights | 1 << hearer : parish.uprights & ~(1 << hearer);
        return parish.howMany();
    }

    public int leave(int hearer) {
        if (!parish.isThere(hearer)) {
            return UNKNOWN;
        }
        parish.present &= ~(1 << hearer);
        parish.uprights &= ~(1 << hearer);
        return parish.howMany();
    }

    public int set(int which, int v) {
        switch (which) {
            case 0:
                return isOutside(v, 1, MOST_REACH) ? OUTSIDE : parish.changeReach(v);
            case 1:
                return isOutside(v, 0, MOST_RATE) ? OUTSIDE : parish.changeRate(v);
            case 2:
                return isOutside(v, 0, MOST_ROWS - 1) ? OUTSIDE : parish.changeInspector(v);
            default:
                return OUTSIDE;
        }
    }

    public int say(int sign) {
        if (isOutside(sign, FIRST_CODE, LAST_CODE)) {
            return OUTSIDE;
        }
        if (pad.length >= PAD_SIGNS) {
            return FULL;
        }
        pad.signs[pad.length] = sign;
        pad.length++;
        return pad.length;
    }

    public int wipe() {
        int before = pad.length;
        pad.length = 0;
        return before;
    }

    public int fault() {
        return pad.firstFault();
    }

    // ---- 2 minutes

    public int heard(int hearer, int m, int what) {
        if (!parish.isThere(hearer)) {
            return UNKNOWN;
        }
        if (isOutside(what, 0, 3)) {
            return OUTSIDE;
        }
        if (pad.hasFault()) {
            return NO;
        }
        if (isOutside(m, 0, pad.length - 1)) {
            return OUTSIDE;
        }
        Walk walk = goneThrough(m + 1);
        return what == 0 ? walk.level[hearer] : walk.didHe(what, parish.seat[hearer]);
    }

    public int sum(int m, int what) {
        if (isOutside(what, 0, 4)) {
            return OUTSIDE;
        }
        if (pad.hasFault()) {
            return NO;
        }
        if (isOutside(m, -1, pad.length - 1)) {
            return OUTSIDE;
        }
        return goneThrough(m == -1 ? pad.length : m + 1).total(what);
    }

    public int first(int what) {
        if (isOutside(what, 0, 1)) {
            return OUTSIDE;
        }
        if (pad.hasFault()) {
            return NO;
        }
        Walk walk = goneThrough(0);
        for (int m = 0; m < pad.length; m++) {
            walk.pass(parish, pad.signs[m], false);
            if ((what == 0 ? walk.nodding : walk.snoring) != 0) {
                return m;
            }
        }
        return NONE;
    }

    public int gain() {
        return pad.hasFault() ? NO : goneThrough(pad.length).gained();
    }

    // ---- 3 orders, seats, uprights

    public int order(int what, int place) {
        if (isOutside(what, 0, 1)) {
            return OUTSIDE;
        }
        if (pad.hasFault()) {
            return NO;
        }
        if (pad.length > ORDER_SIGNS) {
            return FULL;
        }
        cheapest.aimAt(what == 1);
        cheapest.goThrough(parish, pad, steps);
        return place == -1 ? cheapest.value : cheapest.signOfBest(place);
    }

    public int start(int what) {
        if (isOutside(what, 0, 1)) {
            return OUTSIDE;
        }
        if (pad.hasFault()) {
            return NO;
        }
        return pad.length >= PAD_SIGNS ? FULL : bestStart(what == 1);
    }

    public int seated(int what) {
        if (isOutside(what, 0, 1)) {
            return OUTSIDE;
        }
        return pad.hasFault() ? NO : bestChange(what == 1);
    }

    public int hired(int v, int what) {
        if (isOutside(v, 0, MOST_HIRED_TAX) || isOutside(what, 0, 1)) {
            return OUTSIDE;
        }
        if (pad.hasFault()) {
            return NO;
        }
        int chosen = fewestUprights(v);
        return chosen == NONE || what == 1 ? chosen : Integer.bitCount(chosen);
    }

    public int least() {
        if (pad.hasFault()) {
            return NO;
        }
        return pad.length >= PAD_SIGNS ? FULL : rateAgainstHell();
    }

    // ---- 4 counts, parishes, cold

    public int seen(int m, int dips) {
        if (isOutside(m, 0, PAD_SIGNS - 1) || isOutside(dips, 0, HEARERS)) {
            return OUTSIDE;
        }
        return parish.sights >= SIGHTS ? FULL : parish.addSight(m, dips);
    }

    public int forget() {
        int before = parish.sights;
        parish.sights = 0;
        return before;
    }

    public int preached(int place) {
        int refusal = preachedRefusal();
        if (refusal != 0) {
            return refusal;
        }
        fitting.find(parish, pad, steps);
        return place == -1 ? fitting.found : fitting.signOfFirst(place);
    }

    public int surely() {
        int refusal = preachedRefusal();
        if (refusal != 0) {
            return refusal;
        }
        fitting.find(parish, pad, steps);
        return fitting.same;
    }

    public int dips(int hearer, int what) {
        if (!parish.isThere(hearer)) {
            return UNKNOWN;
        }
        if (isOutside(what, 0, 1)) {
            return OUTSIDE;
        }
        return pad.hasFault() ? NO : dipBits(parish.seat[hearer], what == 1);
    }

    public int alike(int i) {
        if (pad.hasFault()) {
            return NO;
        }
        fillDipRows();
        return i == -1 ? pairsAlike() : pairAlike(i);
    }

    public int parishes(int church) {
        if (isOutside(church, -1, CHURCHES - 1)) {
            return OUTSIDE;
        }
        rivals.settle(parish);
        return church == -1 ? rivals.rounds : rivals.crowd[church];
    }

    public long cold(int t, int what, int part) {
        if (isOutside(t, 0, 10) || isOutside(what, 0, 1) || isOutside(part, 0, 1)) {
            return LOST + OUTSIDE;
        }
        if (pad.hasFault()) {
            return LOST + NO;
        }
        if (pad.length > COLD_SIGNS) {
            return LOST + FULL;
        }
        weather.weigh(parish, pad, steps, t);
        return lowestTerms(what == 0 ? weather.awakeWeight : weather.nodWeight, weather.allWeight, part);
    }

    public int year(int seed, int m, int what) {
        if (isOutside(seed, 0, MOST_SEED) || isOutside(m, 1, YEAR_SERMONS) || isOutside(what, 0, 2)) {
            return OUTSIDE;
        }
        return yearTotal(seed, m, what);
    }

    public int image(int n) {
        if (isOutside(n, 0, IMAGES - 1)) {
            return OUTSIDE;
        }
        images[n].become(parish);
        kept[n] = true;
        return 1;
    }

    public int restore(int n) {
        if (isOutside(n, 0, IMAGES - 1)) {
            return OUTSIDE;
        }
        if (!kept[n]) {
            return STATE;
        }
        parish.become(images[n]);
        return 1;
    }

    public int told(int what) {
        switch (what) {
            case 0:
                return pad.length;
            case 1:
                return parish.rows;
            case 2:
                return parish.present;
            case 3:
                return parish.reach;
            case 4:
                return parish.rate;
            case 5:
                return parish.inspector;
            case 6:
                return parish.sights;
            default:
                return what < 10 ? OUTSIDE : toldOf(what / 10 - 1, what % 10);
        }
    }

    // ---- what several calls use

    private static boolean isOutside(int v, int low, int high) {
        return v < low || v > high;
    }

    private Walk goneThrough(int minutes) {
        Walk walk = steps[0];
        walk.begin(parish);
        walk.passAll(parish, pad, 0, minutes);
        return walk;
    }

    private int toldOf(int hearer, int detail) {
        if (!parish.isThere(hearer)) {
            return OUTSIDE;
        }
        switch (detail) {
            case 0:
                return parish.seat[hearer];
            case 1:
                return parish.awake[hearer];
            case 2:
                return parish.dull[hearer];
            case 3:
                return parish.creed[hearer];
            case 4:
                return parish.isUpright(hearer) ? 1 : 0;
            default:
                return OUTSIDE;
        }
    }

    private int bestStart(boolean wantPlace) {
        Walk ahead = goneThrough(0);
        Walk whole = steps[1];
        int most = 0;
        int bestPlace = NONE;
        for (int place = 0; place <= pad.length; place++) {
            whole.become(ahead);
            whole.pass(parish, START, false);
            whole.passAll(parish, pad, place, pad.length);
            if (bestPlace == NONE || whole.gained() > most) {
                most = whole.gained();
                bestPlace = place;
            }
            ahead.passAll(parish, pad, place, Math.min(place + 1, pad.length));
        }
        return wantPlace ? bestPlace : most;
    }

    private int bestChange(boolean wantWhich) {
        int fewest = goneThrough(pad.length).nods;
        int which = NONE;
        for (int hearer = 0; hearer < HEARERS; hearer++) {
            for (int seat = 0; seat < parish.seats(); seat++) {
                if (isNewChange(hearer, seat)) {
                    int nods = nodsWhenChanged(hearer, seat);
                    if (nods < fewest) {
                        fewest = nods;
                        which = 100 * hearer + seat;
                    }
                }
            }
        }
        return wantWhich ? which : fewest;
    }

    /** A change with a lesser HEARER was looked at already, and told by the lesser number. */
    private boolean isNewChange(int hearer, int seat) {
        if (!parish.isThere(hearer)) {
            return false;
        }
        int sitter = parish.sitterAt(seat);
        return sitter == NONE || sitter > hearer;
    }

    private int nodsWhenChanged(int hearer, int seat) {
        trial.become(parish);
        int sitter = trial.sitterAt(seat);
        if (sitter != NONE) {
            trial.seat[sitter] = trial.seat[hearer];
        }
        trial.seat[hearer] = seat;
        Walk walk = steps[0];
        walk.begin(trial);
        walk.passAll(trial, pad, 0, pad.length);
        return walk.nods;
    }

    private int fewestUprights(int v) {
        int free = parish.present & ~parish.uprights;
        trial.become(parish);
        for (int count = 0; count <= HEARERS; count++) {
            for (int chosen = 0; chosen < 1 << HEARERS; chosen++) {
                if ((chosen & ~free) == 0 && Integer.bitCount(chosen) == count) {
                    trial.uprights = parish.uprights | chosen;
                    if (isTrialTaxWithin(v)) {
                        return chosen;
                    }
                }
            }
        }
        return NONE;
    }

    private boolean isTrialTaxWithin(int v) {
        Walk walk = steps[0];
        walk.begin(trial);
        for (int m = 0; m < pad.length && walk.tax <= v; m++) {
            walk.pass(trial, pad.signs[m], false);
        }
        return walk.tax <= v;
    }

    /** The minutes ahead of the new h are the same, so what is given and taxed in it decides. */
    private int rateAgainstHell() {
        trial.become(parish);
        trial.rate = 1;
        Walk walk = steps[0];
        walk.begin(trial);
        walk.passAll(trial, pad, 0, pad.length);
        int taxBefore = walk.tax;
        int offeringsBefore = walk.offerings;
        walk.pass(trial, HELL, false);
        int dipsSeen = walk.tax - taxBefore;
        int given = walk.offerings - offeringsBefore;
        for (int rate = 1; rate <= MOST_RATE; rate++) {
            if (given <= rate * dipsSeen) {
                return rate;
            }
        }
        return NONE;
    }

    private int preachedRefusal() {
        if (pad.hasFault()) {
            return NO;
        }
        return pad.length > PREACHED_SIGNS ? FULL : 0;
    }

    private int dipBits(int seat, boolean onlyAgreed) {
        Walk walk = goneThrough(0);
        int bits = 0;
        for (int m = 0; m < pad.length && m < BIT_MINUTES; m++) {
            walk.pass(parish, pad.signs[m], false);
            int heads = onlyAgreed ? walk.agreeing : walk.dipping();
            bits |= (heads >> seat & 1) << m;
        }
        return bits;
    }

    private void fillDipRows() {
        for (int hearer = 0; hearer < HEARERS; hearer++) {
            dipRows[hearer] = 0;
        }
        Walk walk = goneThrough(0);
        for (int m = 0; m < pad.length; m++) {
            walk.pass(parish, pad.signs[m], false);
            for (int hearer = 0; hearer < HEARERS; hearer++) {
                dipRows[hearer] |= (long) (walk.dipping() >> parish.seat[hearer] & 1) << m;
            }
        }
    }

    private boolean areAlike(int one, int other) {
        return parish.isThere(one) && parish.isThere(other) && dipRows[one] == dipRows[other];
    }

    private int pairsAlike() {
        int pairs = 0;
        for (int one = 0; one < HEARERS; one++) {
            for (int other = one + 1; other < HEARERS; other++) {
                if (areAlike(one, other)) {
                    pairs++;
                }
            }
        }
        return pairs;
    }

    private int pairAlike(int i) {
        int pairs = 0;
        for (int one = 0; one < HEARERS; one++) {
            for (int other = one + 1; other < HEARERS; other++) {
                if (areAlike(one, other)) {
                    if (pairs == i) {
                        return 10 * one + other;
                    }
                    pairs++;
                }
            }
        }
        return NONE;
    }

    private static long lowestTerms(long upper, long lower, int part) {
        long divisor = commonDivisor(upper, lower);
        long chosen = part == 0 ? upper : lower;
        return divisor > 1 ? chosen / divisor : chosen;
    }

    /** The bound is above the steps that two longs can need. */
    private static long commonDivisor(long one, long other) {
        for (int i = 0; i < 200 && other != 0; i++) {
            long rest = one % other;
            one = other;
            other = rest;
        }
        return one;
    }

    private int yearTotal(int seed, int sermons, int what) {
        Walk walk = steps[0];
        int x = seed;
        int total = 0;
        for (int i = 0; i < sermons; i++) {
            walk.begin(parish);
            for (int m = 0; m < YEAR_MINUTES; m++) {
                x = (75 * x + 74) % 65537;
                walk.pass(parish, BY_DRAW[x % KINDS], false);
            }
            if (what == 2) {
                total += walk.nods == 0 ? 1 : 0;
            } else {
                total += what == 0 ? walk.tax : walk.offerings;
            }
        }
        return total;
    }

    /** All that an IMAGE keeps: the CHURCH, who is there, and the SIGHTS. */
    private static final class Parish {
        int rows = 2;
        int reach = 4;
        int rate = 1;
        int inspector = 0;
        int present = 0;
        int uprights = 0;
        int sights = 0;
        final int[] seat = new int[HEARERS];
        final int[] awake = new int[HEARERS];
        final int[] dull = new int[HEARERS];
        final int[] creed = new int[HEARERS];
        final int[] sightMinute = new int[SIGHTS];
        final int[] sightDips = new int[SIGHTS];

        void become(Parish other) {
            rows = other.rows;
            reach = other.reach;
            rate = other.rate;
            inspector = other.inspector;
            present = other.present;
            uprights = other.uprights;
            sights = other.sights;
            System.arraycopy(other.seat, 0, seat, 0, HEARERS);
            System.arraycopy(other.awake, 0, awake, 0, HEARERS);
            System.arraycopy(other.dull, 0, dull, 0, HEARERS);
            System.arraycopy(other.creed, 0, creed, 0, HEARERS);
            System.arraycopy(other.sightMinute, 0, sightMinute, 0, SIGHTS);
            System.arraycopy(other.sightDips, 0, sightDips, 0, SIGHTS);
        }

        void rebuild(int newRows) {
            rows = newRows;
            inspector = 0;
            present = 0;
            uprights = 0;
            sights = 0;
        }

        int changeReach(int v) {
            int before = reach;
            reach = v;
            return before;
        }

        int changeRate(int v) {
            int before = rate;
            rate = v;
            return before;
        }

        int changeInspector(int v) {
            int before = inspector;
            inspector = v;
            return before;
        }

        int addSight(int minute, int count) {
            sightMinute[sights] = minute;
            sightDips[sights] = count;
            sights++;
            return sights;
        }

        int seats() {
            return rows * ROW_SEATS;
        }

        int howMany() {
            return Integer.bitCount(present);
        }

        boolean isThere(int hearer) {
            return hearer >= 0 && hearer < HEARERS && (present >> hearer & 1) != 0;
        }

        boolean isUpright(int hearer) {
            return (uprights >> hearer & 1) != 0;
        }

        int sitterAt(int place) {
            for (int hearer = 0; hearer < HEARERS; hearer++) {
                if (isThere(hearer) && seat[hearer] == place) {
                    return hearer;
                }
            }
            return NONE;
        }

        /** Whom the n with so many n ahead of it names. */
        int named(int namesAhead) {
            int count = Integer.bitCount(present);
            if (count == 0) {
                return NONE;
            }
            int turn = namesAhead % count;
            for (int hearer = 0; hearer < HEARERS; hearer++) {
                if (isThere(hearer)) {
                    if (turn == 0) {
                        return hearer;
                    }
                    turn--;
                }
            }
            return NONE;
        }
    }

    /** The text of the SERMON. */
    private static final class Pad {
        final int[] signs = new int[PAD_SIGNS];
        int length = 0;

        int firstFault() {
            for (int place = 0; place < length; place++) {
                if (kindOf(signs[place]) == NONE) {
                    return place;
                }
            }
            return NONE;
        }

        boolean hasFault() {
            return firstFault() != NONE;
        }

        static int kindOf(int sign) {
            for (int kind = 0; kind < KINDS; kind++) {
                if (BY_CODE[kind] == sign) {
                    return kind;
                }
            }
            return NONE;
        }
    }

    /** How far a SERMON has gone: who is how awake, what the last minute did, what all minutes came to. */
    private static final class Walk {
        final int[] level = new int[HEARERS];
        int names = 0;
        int starts = 0;
        /** SEATS as bits, of the last minute. */
        int taken = 0;
        int nodding = 0;
        int agreeing = 0;
        int snoring = 0;
        int nods = 0;
        int dipped = 0;
        int tax = 0;
        int offerings = 0;
        int withheld = 0;
        int snores = 0;

        void begin(Parish parish) {
            System.arraycopy(parish.awake, 0, level, 0, HEARERS);
            names = 0;
            starts = 0;
            taken = 0;
            nodding = 0;
            agreeing = 0;
            snoring = 0;
            nods = 0;
            dipped = 0;
            tax = 0;
            offerings = 0;
            withheld = 0;
            snores = 0;
        }

        void become(Walk other) {
            System.arraycopy(other.level, 0, level, 0, HEARERS);
            names = other.names;
            starts = other.starts;
            taken = other.taken;
            nodding = other.nodding;
            agreeing = other.agreeing;
            snoring = other.snoring;
            nods = other.nods;
            dipped = other.dipped;
            tax = other.tax;
            offerings = other.offerings;
            withheld = other.withheld;
            snores = other.snores;
        }

        void passAll(Parish parish, Pad pad, int from, int to) {
            for (int m = from; m < to; m++) {
                pass(parish, pad.signs[m], false);
            }
        }

        void pass(Parish parish, int sign, boolean isCold) {
            int named = sign == NAME ? parish.named(names) : NONE;
            changeLevels(parish, sign, named, isCold);
            findHeads(parish, sign);
            elbow(parish);
            count(parish, sign);
            names += sign == NAME ? 1 : 0;
            starts += sign == START ? 1 : 0;
        }

        private void changeLevels(Parish parish, int sign, int named, boolean isCold) {
            int forAll = forAll(sign);
            for (int hearer = 0; hearer < HEARERS; hearer++) {
                if (parish.isThere(hearer)) {
                    int change = isCold ? forAll : forAll - parish.dull[hearer];
                    if (sign == START) {
                        change += startled(parish, hearer);
                    } else if (hearer == named) {
                        change += 5;
                    }
                    level[hearer] = Math.min(Math.max(level[hearer] + change, 0), parish.awake[hearer]);
                }
            }
        }

        private static int forAll(int sign) {
            switch (sign) {
                case LONG_WORDS:
                    return -2;
                case HELL:
                    return 3;
                case HOPE:
                    return 1;
                case HYMN:
                    return 2;
                default:
                    return 0;
            }
        }

        private int startled(Parish parish, int hearer) {
            int row = parish.seat[hearer] / ROW_SEATS;
            return Math.max(parish.reach - 2 * row - starts, 0);
        }

        private void findHeads(Parish parish, int sign) {
            taken = 0;
            nodding = 0;
            agreeing = 0;
            for (int hearer = 0; hearer < HEARERS; hearer++) {
                if (parish.isThere(hearer)) {
                    int seatBit = 1 << parish.seat[hearer];
                    taken |= seatBit;
                    if (!parish.isUpright(hearer)) {
                        if (level[hearer] == 0) {
                            nodding |= seatBit;
                        } else if (sign == CREED && parish.creed[hearer] == 1) {
                            agreeing |= seatBit;
                        }
                    }
                }
            }
            snoring = nodding & rightOf(nodding) & leftOf(nodding);
        }

        private static int rightOf(int seats) {
            return seats << 1 & ~ROW_BEGINS;
        }

        private static int leftOf(int seats) {
            return seats >> 1 & ~ROW_ENDS;
        }

        private void elbow(Parish parish) {
            int others = taken & ~nodding;
            int elbowed = nodding & (rightOf(others) | leftOf(others));
            for (int hearer = 0; elbowed != 0 && hearer < HEARERS; hearer++) {
                if (parish.isThere(hearer) && (elbowed >> parish.seat[hearer] & 1) != 0) {
                    level[hearer] = Math.min(2, parish.awake[hearer]);
                }
            }
        }

        private void count(Parish parish, int sign) {
            int gift = sign == HELL ? 1 : sign == HOPE ? 2 : 0;
            int seenFrom = parish.inspector * ROW_SEATS;
            int heads = dipping();
            int sleepers = Integer.bitCount(nodding);
            nods += sleepers;
            dipped += Integer.bitCount(heads);
            tax += parish.rate * Integer.bitCount(heads >> seenFrom);
            offerings += gift * Integer.bitCount(taken & ~nodding);
            withheld += gift * sleepers;
            snores += Integer.bitCount(snoring);
        }

        int dipping() {
            return nodding | agreeing;
        }

        int gained() {
            return GAIN_BASE + offerings - tax;
        }

        /** Whether the one in a SEAT NODS (1), agrees (2), SNORES (3) in the last minute. */
        int didHe(int what, int seat) {
            int heads = what == 1 ? nodding : what == 2 ? agreeing : snoring;
            return heads >> seat & 1;
        }

        int total(int what) {
            switch (what) {
                case 0:
                    return nods;
                case 1:
                    return dipped;
                case 2:
                    return tax;
                case 3:
                    return offerings;
                default:
                    return snores;
            }
        }
    }

    /** Goes through the different orders of the minutes on a PAD, the first by codes first. */
    private abstract static class Orders {
        final int[] chosen = new int[ORDER_SIGNS];
        final int[] first = new int[ORDER_SIGNS];
        private final int[] left = new int[KINDS];
        int length = 0;

        /** Whether an order that has come so far may be one of those looked for. */
        abstract boolean mayGoOn(Parish parish, Walk walk, int minute);

        abstract void arrive(Walk walk);

        final void goThrough(Parish parish, Pad pad, Walk[] steps) {
            for (int kind = 0; kind < KINDS; kind++) {
                left[kind] = 0;
            }
            length = Math.min(pad.length, ORDER_SIGNS);
            for (int place = 0; place < length; place++) {
                int kind = Pad.kindOf(pad.signs[place]);
                if (kind != NONE) {
                    left[kind]++;
                }
            }
            steps[0].begin(parish);
            goOn(parish, steps, 0);
        }

        private void goOn(Parish parish, Walk[] steps, int minute) {
            if (minute >= length) {
                arrive(steps[minute]);
                return;
            }
            for (int kind = 0; kind < KINDS; kind++) {
                if (left[kind] > 0) {
                    chosen[minute] = BY_CODE[kind];
                    Walk next = steps[minute + 1];
                    next.become(steps[minute]);
                    next.pass(parish, chosen[minute], false);
                    if (mayGoOn(parish, next, minute)) {
                        left[kind]--;
                        goOn(parish, steps, minute + 1);
                        left[kind]++;
                    }
                }
            }
        }

        final void keepAsFirst() {
            System.arraycopy(chosen, 0, first, 0, length);
        }
    }

    /**
     * The order of least TAX, or of most GAIN. All orders have the same offerings to hope for, so the most GAIN is
     * the least of TAX and what is withheld, and neither ever falls: an order that is no better already can be left.
     */
    private static final class CheapestOrder extends Orders {
        int value = 0;
        private int leastLoss = 0;
        private boolean isForGain = false;

        void aimAt(boolean gainWanted) {
            isForGain = gainWanted;
            leastLoss = ABOVE_LOSS;
        }

        private int loss(Walk walk) {
            return isForGain ? walk.tax + walk.withheld : walk.tax;
        }

        boolean mayGoOn(Parish parish, Walk walk, int minute) {
            return loss(walk) < leastLoss;
        }

        void arrive(Walk walk) {
            leastLoss = loss(walk);
            value = isForGain ? walk.gained() : walk.tax;
            keepAsFirst();
        }

        int signOfBest(int place) {
            return place >= 0 && place < length ? first[place] : NONE;
        }
    }

    /** The orders by which all SIGHTS hold. */
    private static final class FittingOrders extends Orders {
        int found = 0;
        int same = 0;

        void find(Parish parish, Pad pad, Walk[] steps) {
            found = 0;
            same = 0;
            if (areMinutesThere(parish, pad)) {
                goThrough(parish, pad, steps);
            }
        }

        private static boolean areMinutesThere(Parish parish, Pad pad) {
            for (int i = 0; i < parish.sights; i++) {
                if (parish.sightMinute[i] >= pad.length) {
                    return false;
                }
            }
            return true;
        }

        boolean mayGoOn(Parish parish, Walk walk, int minute) {
            for (int i = 0; i < parish.sights; i++) {
                if (parish.sightMinute[i] == minute && parish.sightDips[i] != Integer.bitCount(walk.dipping())) {
                    return false;
                }
            }
            return true;
        }

        void arrive(Walk walk) {
            if (found == 0) {
                keepAsFirst();
                same = (1 << length) - 1;
            }
            for (int place = 0; place < length; place++) {
                if (chosen[place] != first[place]) {
                    same &= ~(1 << place);
                }
            }
            found++;
        }

        int signOfFirst(int place) {
            return found > 0 && place >= 0 && place < length ? first[place] : NONE;
        }
    }

    /** All ways in which the minutes may be cold or not, weighed by tenths. */
    private static final class Weather {
        long awakeWeight = 0;
        long nodWeight = 0;
        long allWeight = 1;
        private int coldTenths = 0;

        void weigh(Parish parish, Pad pad, Walk[] steps, int tenths) {
            coldTenths = tenths;
            awakeWeight = 0;
            nodWeight = 0;
            allWeight = 1;
            for (int m = 0; m < pad.length && m < COLD_SIGNS; m++) {
                allWeight *= 10;
            }
            steps[0].begin(parish);
            goOn(parish, pad, steps, 0, 1);
        }

        private void goOn(Parish parish, Pad pad, Walk[] steps, int minute, long weight) {
            if (weight == 0) {
                return;
            }
            Walk now = steps[minute];
            if (minute >= pad.length || minute >= COLD_SIGNS) {
                awakeWeight += now.nods == 0 ? weight : 0;
                nodWeight += weight * now.nods;
                return;
            }
            Walk next = steps[minute + 1];
            next.become(now);
            next.pass(parish, pad.signs[minute], true);
            goOn(parish, pad, steps, minute + 1, weight * coldTenths);
            next.become(now);
            next.pass(parish, pad.signs[minute], false);
            goOn(parish, pad, steps, minute + 1, weight * (10 - coldTenths));
        }
    }

    /** Three churches, among which the HEARERS move till nobody does. */
    private static final class Rivals {
        final int[] crowd = new int[CHURCHES];
        int rounds = NONE;
        private final int[] at = new int[HEARERS];

        void settle(Parish parish) {
            for (int hearer = 0; hearer < HEARERS; hearer++) {
                at[hearer] = 0;
            }
            for (int church = 0; church < CHURCHES; church++) {
                crowd[church] = church == 0 ? parish.howMany() : 0;
            }
            rounds = NONE;
            for (int round = 1; rounds == NONE && round <= MOST_ROUNDS; round++) {
                if (!doesAnybodyGo(parish)) {
                    rounds = round;
                }
            }
        }

        private boolean doesAnybodyGo(Parish parish) {
            boolean somebody = false;
            for (int hearer = 0; hearer < HEARERS; hearer++) {
                if (parish.isThere(hearer)) {
                    int best = bestChurch(hearer, parish.creed[hearer]);
                    if (best != at[hearer]) {
                        crowd[at[hearer]]--;
                        crowd[best]++;
                        at[hearer] = best;
                        somebody = true;
                    }
                }
            }
            return somebody;
        }

        private int bestChurch(int hearer, int creed) {
            int best = 0;
            for (int church = 1; church < CHURCHES; church++) {
                if (liking(hearer, creed, church) > liking(hearer, creed, best)) {
                    best = church;
                }
            }
            return liking(hearer, creed, best) > liking(hearer, creed, at[hearer]) ? best : at[hearer];
        }

        private int liking(int hearer, int creed, int church) {
            int minutes = creed == 0 ? church : CHURCHES - 1 - church;
            int others = at[hearer] == church ? crowd[church] - 1 : crowd[church];
            return 2 * minutes - others;
        }
    }
}
