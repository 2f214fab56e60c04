import java.util.Arrays;

/**
 * One set of houses for two towns: town 0 lives in them to a seam of the week, town 1 behind it.
 * The words in capitals, and what each call promises, stand in the project's document.
 */
public final class TwoTowns {
    public static final int UNKNOWN = -1, OUTSIDE = -2, STATE = -3, FULL = -4, NONE = -9;
    public static final long LOST = Long.MIN_VALUE;

    private static final int NULL = 1, CAST = 2, INDEX = 3, SIZE = 4;
    private static final int ABOVE_FAULTS = -10, ABOVE_PLACES = -100, BLAME_BASE = 1000;
    private static final int DWELLER = 0, HEARTY = 1, FROWARD = 2, KINDS = 3;
    private static final int MOST_HOUSES = 4, MOST_PERSONS = 6, MOST_GIFTS = 6, MOST_READINGS = 8;
    private static final int MOST_WOOD = 99, MOST_WEAR_READ = 99;
    private static final int WEEKS = 10, HALVES = 14, TIMES = WEEKS * HALVES;
    private static final int SHEETS = 4, LANES = 3, MOST_CELLS = 60, NOTHING = -1;

    private final Sheet[] sheets = new Sheet[SHEETS];
    private final Kept gifts = new Kept(MOST_GIFTS);
    private final Kept readings = new Kept(MOST_READINGS);
    private Told told = new Told();
    private Told draft = new Told();
    private final Weeks real = new Weeks(told, gifts);
    private final Weeks trial = new Weeks(told, gifts);
    private int away = 0;
    private boolean realIsFresh = false;
    private int trace = 0;
    private int fault = 0;

    public TwoTowns() {
        for (int k = 0; k < SHEETS; k++) {
            sheets[k] = new Sheet();
        }
    }

    // ---- 1 the houses

    public int houses(int sheet, int lane, int i, int n) {
        int refusal = refusalOfCells(sheet, lane, i, n);
        if (refusal != 0) {
            return refusal;
        }
        int place = firstFault(sheets[sheet], i, n);
        if (place != NONE) {
            return ABOVE_PLACES - place;
        }
        Told before = told;
        told = draft;
        draft = before;
        away = 0;
        gifts.count = 0;
        readings.count = 0;
        realIsFresh = false;
        return told.houses;
    }

    public int ofHouse(int h, int what) {
        if (!isHouse(h)) {
            return UNKNOWN;
        }
        switch (what) {
            case 0: return told.comes[h];
            case 1: return told.bears[h];
            default: return OUTSIDE;
        }
    }

    public int ofPerson(int p, int what) {
        if (!isPerson(p)) {
            return UNKNOWN;
        }
        switch (what) {
            case 0: return told.kind[p];
            case 1: return told.town[p];
            case 2: return told.house[p];
            case 3: return told.burns[p];
            case 4: return told.mends[p];
            case 5: return wantsOf(told.kind[p], told.burns[p]);
            case 6: return isAway(p) ? 1 : 0;
            default: return OUTSIDE;
        }
    }

    public int seam(int v) {
        if (v < 1 || v >= HALVES) {
            return OUTSIDE;
        }
        if (told.houses == 0) {
            return STATE;
        }
        int before = told.seam;
        told.seam = v;
        realIsFresh = false;
        return before;
    }

    public int away(int p, boolean is) {
        if (!isPerson(p)) {
            return UNKNOWN;
        }
        if (isAway(p) == is) {
            return 0;
        }
        away ^= 1 << p;
        realIsFresh = false;
        return 1;
    }

    public int gift(int h, int week, int wood) {
        if (!isHouse(h)) {
            return UNKNOWN;
        }
        if (!isWeek(week) || wood < 1 || wood > MOST_WOOD) {
            return OUTSIDE;
        }
        realIsFresh = false;
        return gifts.keep(h, week, wood);
    }

    public int undo(int k) {
        realIsFresh = false;
        return gifts.takeBack(k);
    }

    // ---- 2 weeks

    public int wood(int h, int week, int half) {
        if (!isHouse(h)) {
            return UNKNOWN;
        }
        if (!isTime(week, half)) {
            return OUTSIDE;
        }
        return freshWeeks().woodAt(h, timeOf(week, half));
    }

    public int wear(int h, int week, int half) {
        if (!isHouse(h)) {
            return UNKNOWN;
        }
        if (!isTime(week, half)) {
            return OUTSIDE;
        }
        return freshWeeks().wearAt(h, timeOf(week, half));
    }

    public int cold(int week, int half) {
        if (!isTime(week, half)) {
            return OUTSIDE;
        }
        if (told.houses == 0) {
            return STATE;
        }
        return freshWeeks().coldAt(timeOf(week, half));
    }

    // ---- 3 chills, blame

    public int chills(int p, int week) {
        if (!isPerson(p)) {
            return UNKNOWN;
        }
        if (!isWeek(week)) {
            return OUTSIDE;
        }
        return freshWeeks().chillsOf(1 << p, week);
    }

    public int all() {
        if (told.houses == 0) {
            return STATE;
        }
        return freshWeeks().chillsOf(everybody(), WEEKS - 1);
    }

    public int breaks(int h) {
        if (!isHouse(h)) {
            return UNKNOWN;
        }
        Weeks weeks = freshWeeks();
        for (int time = 0; time < TIMES; time++) {
            if (told.breaksBy(h, weeks.wearAt(h, time))) {
                return time;
            }
        }
        return NONE;
    }

    public int best(int what) {
        if (what < 0 || what > 1) {
            return OUTSIDE;
        }
        if (told.houses == 0) {
            return STATE;
        }
        int bestSeam = 0;
        int fewest = 0;
        for (int seam = 1; seam < HALVES; seam++) {
            trial.prepare(told, away);
            trial.seam = seam;
            trial.live(WEEKS, 0);
            int chills = trial.chillsOf(everybody(), WEEKS - 1);
            if (bestSeam == 0 || chills < fewest) {
                bestSeam = seam;
                fewest = chills;
            }
        }
        return what == 0 ? bestSeam : fewest;
    }

    public int blame(int p) {
        if (!isPerson(p)) {
            return UNKNOWN;
        }
        int others = everybody() & ~(1 << p);
        int before = freshWeeks().chillsOf(others, WEEKS - 1);
        trial.prepare(told, away | 1 << p);
        trial.live(WEEKS, 0);
        return BLAME_BASE + before - trial.chillsOf(others, WEEKS - 1);
    }

    public int warm(int p) {
        if (!isPerson(p)) {
            return UNKNOWN;
        }
        int barred = away | 1 << p;
        int found = NONE;
        int fewest = MOST_PERSONS;
        // By rising numbers, so that of several sets with as many in them the least is met first.
        for (int set = 0; set <= everybody(); set++) {
            if ((set & barred) != 0 || Integer.bitCount(set) >= fewest) {
                continue;
            }
            trial.prepare(told, away | set);
            if (trial.live(WEEKS, 1 << p)) {
                found = set;
                fewest = Integer.bitCount(set);
            }
        }
        return found;
    }

    public int logs(int h) {
        if (!isHouse(h)) {
            return UNKNOWN;
        }
        int dwellers = told.dwellersOf(h);
        for (int wood = 0; wood <= MOST_WOOD; wood++) {
            trial.prepare(told, away);
            trial.moreHouse = h;
            trial.moreWood = wood;
            if (trial.live(1, dwellers)) {
                return wood;
            }
        }
        return NONE;
    }

    public long pays(int p, int week, int which) {
        if (!isPerson(p) || !isWeek(week) || !isWhich(which)) {
            return LOST;
        }
        int own = 0;
        int together = 0;
        for (int q = 0; q < told.persons; q++) {
            int less = lessWearWithout(q, week);
            together += less;
            if (q == p) {
                own = less;
            }
        }
        return ofShare(own, together, which);
    }

    // ---- 4 together, thirds, what was seen

    public int together(int p, int other, int stays) {
        if (!isPerson(p) || !isPerson(other) || p == other) {
            return UNKNOWN;
        }
        if (stays < 0 || stays >= HALVES) {
            return OUTSIDE;
        }
        if (told.house[p] != told.house[other]) {
            return 0;
        }
        int timeOfOther = told.town[other] == 0 ? told.seam : HALVES - told.seam;
        if (told.town[p] == told.town[other]) {
            return timeOfOther;
        }
        // Whoever stays meets the other town from its first half on, and is at home again behind its last.
        return Math.min(stays, timeOfOther);
    }

    public int third(int h) {
        if (!isHouse(h)) {
            return UNKNOWN;
        }
        int set = 0;
        for (int half = 0; half < HALVES; half++) {
            if ((whoIsIn(half) & told.dwellersOf(h)) == 0) {
                set |= 1 << half;
            }
        }
        return set;
    }

    public int row(int sheet, int lane, int i, int n) {
        int refusal = refusalOfCells(sheet, lane, i, n);
        if (refusal != 0) {
            return refusal;
        }
        if (told.houses == 0) {
            return STATE;
        }
        if (n > HALVES) {
            return OUTSIDE;
        }
        Sheet asked = sheets[sheet];
        for (int k = 0; k < n; k++) {
            if (!isPerson(asked.read(i + k))) {
                return UNKNOWN;
            }
        }
        int count = 0;
        while (count < n && (whoIsIn(count) >> asked.read(i + count) & 1) == 1) {
            count++;
        }
        return count;
    }

    public int reading(int h, int week, int half, int v) {
        if (!isHouse(h)) {
            return UNKNOWN;
        }
        if (!isTime(week, half) || v < 0 || v > MOST_WEAR_READ) {
            return OUTSIDE;
        }
        return readings.keep(h, timeOf(week, half), v);
    }

    public int back(int k) {
        return readings.takeBack(k);
    }

    public int gone() {
        if (told.houses == 0) {
            return STATE;
        }
        int set = 0;
        for (int p = 0; p < told.persons; p++) {
            trial.prepare(told, away | 1 << p);
            if (readingsAreSoInTrial()) {
                set |= 1 << p;
            }
        }
        return set;
    }

    public int seams() {
        if (told.houses == 0) {
            return STATE;
        }
        int set = 0;
        for (int seam = 1; seam < HALVES; seam++) {
            trial.prepare(told, away);
            trial.seam = seam;
            if (readingsAreSoInTrial()) {
                set |= 1 << seam;
            }
        }
        return set;
    }

    public int kinds(int p) {
        if (!isPerson(p)) {
            return UNKNOWN;
        }
        int set = 0;
        for (int kind = 0; kind < KINDS; kind++) {
            trial.prepare(told, away);
            trial.wants[p] = wantsOf(kind, told.burns[p]);
            if (readingsAreSoInTrial()) {
                set |= 1 << kind;
            }
        }
        return set;
    }

    public long odds(int week, int which) {
        if (!isWeek(week) || !isWhich(which) || told.houses == 0) {
            return LOST;
        }
        int warmSets = 0;
        for (int set = 0; set <= everybody(); set++) {
            trial.prepare(told, set);
            if (trial.live(week + 1, everybody())) {
                warmSets++;
            }
        }
        return ofShare(warmSets, everybody() + 1, which);
    }

    // ---- 5 sheets, parts

    public int sheet(int k, int lane, int n) {
        fault = 0;
        if (!isSheet(k)) {
            return UNKNOWN;
        }
        if (!isLane(lane) || n > MOST_CELLS) {
            return OUTSIDE;
        }
        if (n < 0) {
            return faultBy(SIZE);
        }
        sheets[k].renew(lane, n);
        return 1;
    }

    public int lose(int k) {
        if (!isSheet(k)) {
            return UNKNOWN;
        }
        if (sheets[k].hasNothing()) {
            return 0;
        }
        sheets[k].renew(NOTHING, 0);
        return 1;
    }

    public int put(int k, int i, int v) {
        fault = 0;
        if (!isSheet(k)) {
            return UNKNOWN;
        }
        if (sheets[k].hasNothing()) {
            return faultBy(NULL);
        }
        if (!sheets[k].hasCell(i)) {
            return faultBy(INDEX);
        }
        sheets[k].write(i, v);
        return 1;
    }

    public long cell(int k, int i, int lane) {
        if (refusalOfLane(k, lane) != 0) {
            return LOST;
        }
        if (!sheets[k].hasCell(i)) {
            faultBy(INDEX);
            return LOST;
        }
        return sheets[k].read(i);
    }

    public int copy(int k, int i, int other, int j, int n) {
        fault = 0;
        if (!isSheet(k) || !isSheet(other)) {
            return UNKNOWN;
        }
        Sheet from = sheets[k];
        Sheet to = sheets[other];
        if (from.hasNothing() || to.hasNothing()) {
            return faultBy(NULL);
        }
        if (from.lane != to.lane) {
            return faultBy(CAST);
        }
        if (!from.hasCells(i, n) || !to.hasCells(j, n)) {
            return faultBy(INDEX);
        }
        System.arraycopy(from.cells, i, to.cells, j, n);
        return n;
    }

    public int tell(int p) {
        if (!isPerson(p)) {
            return UNKNOWN;
        }
        switch (told.kind[p]) {
            case DWELLER: return tellDweller(p);
            case HEARTY: return tellHearty(p);
            default: return tellFroward(p);
        }
    }

    public int knock(int p) {
        if (!isPerson(p)) {
            return UNKNOWN;
        }
        if (told.kind[p] == FROWARD) {
            leaveInTrace(5);
            return 50;
        }
        leaveInTrace(4);
        return p;
    }

    public int as(int p, int kind) {
        fault = 0;
        if (!isPerson(p)) {
            return UNKNOWN;
        }
        if (kind < 0 || kind >= KINDS) {
            return OUTSIDE;
        }
        // Each kind is also every kind below it.
        return told.kind[p] < kind ? faultBy(CAST) : 1;
    }

    public int trace() {
        return trace;
    }

    public int fault() {
        return fault;
    }

    public int many(int what) {
        switch (what) {
            case 0: return told.houses;
            case 1: return told.persons;
            case 2: return told.seam;
            case 3: return gifts.count;
            case 4: return readings.count;
            default: return OUTSIDE;
        }
    }

    // ---- what there is

    private boolean isHouse(int h) {
        return h >= 0 && h < told.houses;
    }

    private boolean isPerson(int p) {
        return p >= 0 && p < told.persons;
    }

    private boolean isAway(int p) {
        return (away >> p & 1) == 1;
    }

    private static boolean isSheet(int k) {
        return k >= 0 && k < SHEETS;
    }

    private static boolean isLane(int lane) {
        return lane >= 0 && lane < LANES;
    }

    private static boolean isWeek(int week) {
        return week >= 0 && week < WEEKS;
    }

    private static boolean isTime(int week, int half) {
        return isWeek(week) && half >= 0 && half < HALVES;
    }

    private static boolean isWhich(int which) {
        return which == 0 || which == 1;
    }

    private static int timeOf(int week, int half) {
        return week * HALVES + half;
    }

    private int everybody() {
        return (1 << told.persons) - 1;
    }

    private int whoIsIn(int half) {
        return told.townIn(half, told.seam) & ~away;
    }

    // ---- faults

    private int faultBy(int which) {
        fault = which;
        return ABOVE_FAULTS - which;
    }

    /** What a call answers that can't take a sheet as a row of a lane; 0, if it can. */
    private int refusalOfLane(int k, int lane) {
        fault = 0;
        if (!isSheet(k)) {
            return UNKNOWN;
        }
        if (!isLane(lane)) {
            return OUTSIDE;
        }
        if (sheets[k].hasNothing()) {
            return faultBy(NULL);
        }
        return sheets[k].lane == lane ? 0 : faultBy(CAST);
    }

    /** What a call answers that can't take n cells from i on; 0, if it can. */
    private int refusalOfCells(int k, int lane, int i, int n) {
        int refusal = refusalOfLane(k, lane);
        if (refusal != 0) {
            return refusal;
        }
        if (n < 0) {
            return faultBy(SIZE);
        }
        return sheets[k].hasCells(i, n) ? 0 : faultBy(INDEX);
    }

    /** The FIRST FAULT of a TEXT, or NONE; the draft has then taken the whole of it. */
    private int firstFault(Sheet text, int from, int n) {
        draft.begin();
        for (int place = 0; place < n; place++) {
            if (!draft.goesOn(text.read(from + place))) {
                return place;
            }
        }
        return draft.isWhole() ? NONE : n;
    }

    // ---- weeks and shares

    private Weeks freshWeeks() {
        if (!realIsFresh) {
            real.prepare(told, away);
            real.live(WEEKS, 0);
            realIsFresh = true;
        }
        return real;
    }

    private int lessWearWithout(int p, int week) {
        int end = timeOf(week, HALVES - 1);
        trial.prepare(told, away | 1 << p);
        trial.live(week + 1, 0);
        return Math.max(0, freshWeeks().wearTogether(end) - trial.wearTogether(end));
    }

    private boolean readingsAreSoInTrial() {
        trial.live(WEEKS, 0);
        return readings.areWearOf(trial);
    }

    /** The upper (which 0) or lower number of a share in least terms; a share of nothing is 0. */
    private static long ofShare(int part, int whole, int which) {
        int divisor = commonDivisor(part, whole);
        if (divisor == 0 || whole == 0) {
            return which;
        }
        return which == 0 ? part / divisor : whole / divisor;
    }

    private static int commonDivisor(int a, int b) {
        int upper = a;
        int lower = b;
        // Numbers of an int need fewer than 64 steps.
        for (int step = 0; step < 64 && lower != 0; step++) {
            int rest = upper % lower;
            upper = lower;
            lower = rest;
        }
        return upper;
    }

    // ---- telling

    private static int wantsOf(int kind, int burns) {
        switch (kind) {
            case DWELLER: return burns;
            case HEARTY: return burns + 1;
            default: return 2 * (burns + 1);
        }
    }

    private void leaveInTrace(int body) {
        trace = 31 * trace + body;
    }

    private int tellDweller(int p) {
        leaveInTrace(1);
        return told.burns[p];
    }

    private int tellHearty(int p) {
        leaveInTrace(2);
        return tellDweller(p) + 100;
    }

    private int tellFroward(int p) {
        leaveInTrace(3);
        return tellHearty(p) + tellDweller(p);
    }

    /** Nothing, or a row of a LANE. The cells are made once, so that a new row takes no new room. */
    private static final class Sheet {
        final int[] cells = new int[MOST_CELLS];
        int lane = NOTHING;
        int length = 0;

        void renew(int newLane, int newLength) {
            lane = newLane;
            length = newLength;
            Arrays.fill(cells, 0);
        }

        boolean hasNothing() {
            return lane == NOTHING;
        }

        boolean hasCell(int i) {
            return i >= 0 && i < length;
        }

        boolean hasCells(int i, int n) {
            return i >= 0 && i <= length && n >= 0 && n <= length - i;
        }

        int read(int i) {
            return hasCell(i) ? cells[i] : 0;
        }

        void write(int i, int v) {
            if (hasCell(i)) {
                cells[i] = cutToLane(v);
            }
        }

        private int cutToLane(int v) {
            switch (lane) {
                case 0: return (byte) v;
                case 1: return (short) v;
                default: return v;
            }
        }
    }

    /** HOUSES and PERSONS as a TEXT tells them; it takes the TEXT code by code. */
    private static final class Told {
        private static final int HEAD = 0, HOUSE = 1, PERSON = 2, BETWEEN = 3;

        final int[] comes = new int[MOST_HOUSES];
        final int[] bears = new int[MOST_HOUSES];
        final int[] kind = new int[MOST_PERSONS];
        final int[] town = new int[MOST_PERSONS];
        final int[] house = new int[MOST_PERSONS];
        final int[] burns = new int[MOST_PERSONS];
        final int[] mends = new int[MOST_PERSONS];
        int seam = 0;
        int houses = 0;
        int persons = 0;
        private int part = HEAD;
        private int place = 0;

        void begin() {
            seam = 0;
            houses = 0;
            persons = 0;
            part = HEAD;
            place = 0;
        }

        boolean isWhole() {
            return part == BETWEEN && persons > 0;
        }

        /** Whether a TEXT goes on with this code, which is taken then. */
        boolean goesOn(int code) {
            boolean fits;
            switch (part) {
                case HEAD: fits = headGoesOn(code); break;
                case HOUSE: fits = houseGoesOn(houses - 1, code); break;
                case PERSON: fits = personGoesOn(persons - 1, code); break;
                default: fits = opens(code); break;
            }
            place++;
            return fits;
        }

        private boolean headGoesOn(int code) {
            int digit = digitOf(code);
            switch (place) {
                case 0:
                    return code == 'u';
                case 1:
                    seam = 10 * digit;
                    return isIn(digit, 0, 1);
                default:
                    seam += digit;
                    part = BETWEEN;
                    return digit >= 0 && isIn(seam, 1, HALVES - 1);
            }
        }

        /** Whether a HOUSE or a PERSON may begin here, as this code says. */
        private boolean opens(int code) {
            place = 0;
            if (code == ';' && persons == 0 && houses < MOST_HOUSES) {
                houses++;
                part = HOUSE;
                return true;
            }
            if (code == ',' && houses > 0 && persons < MOST_PERSONS) {
                persons++;
                part = PERSON;
                return true;
            }
            return false;
        }

        private boolean houseGoesOn(int h, int code) {
            int digit = digitOf(code);
            switch (place) {
                case 1:
                    comes[h] = 10 * digit;
                    return digit >= 0;
                case 2:
                    comes[h] += digit;
                    return digit >= 0;
                default:
                    bears[h] = digit;
                    part = BETWEEN;
                    return digit >= 1;
            }
        }

        private boolean personGoesOn(int p, int code) {
            int digit = digitOf(code);
            switch (place) {
                case 1:
                    kind[p] = kindOf(code);
                    return kind[p] != NONE;
                case 2:
                    town[p] = digit;
                    return isIn(digit, 0, 1);
                case 3:
                    house[p] = digit;
                    return isIn(digit, 0, houses - 1);
                case 4:
                    burns[p] = digit;
                    return isIn(digit, 0, 5);
                default:
                    mends[p] = digit;
                    part = BETWEEN;
                    return digit >= 0;
            }
        }

        private static boolean isIn(int v, int least, int most) {
            return v >= least && v <= most;
        }

        private static int digitOf(int code) {
            return isIn(code, '0', '9') ? code - '0' : NONE;
        }

        private static int kindOf(int code) {
            switch (code) {
                case 'd': return DWELLER;
                case 'h': return HEARTY;
                case 'f': return FROWARD;
                default: return NONE;
            }
        }

        boolean breaksBy(int h, int wear) {
            return wear >= 10 * bears[h];
        }

        int dwellersOf(int h) {
            int set = 0;
            for (int p = 0; p < persons; p++) {
                set |= house[p] == h ? 1 << p : 0;
            }
            return set;
        }

        /** The PERSONS of the TOWN that is in, by a seam that may be tried only. */
        int townIn(int half, int bySeam) {
            int in = half < bySeam ? 0 : 1;
            int set = 0;
            for (int p = 0; p < persons; p++) {
                set |= town[p] == in ? 1 << p : 0;
            }
            return set;
        }
    }

    /** GIFTS (when: the WEEK) or READINGS (when: the time), by their numbers. */
    private static final class Kept {
        private final int most;
        private final int[] house;
        private final int[] when;
        private final int[] amount;
        int count = 0;

        Kept(int mostOfThem) {
            most = Math.max(0, mostOfThem);
            house = new int[most];
            when = new int[most];
            amount = new int[most];
        }

        int keep(int h, int then, int v) {
            if (count >= most) {
                return FULL;
            }
            house[count] = h;
            when[count] = then;
            amount[count] = v;
            return count++;
        }

        int takeBack(int k) {
            if (k < 0 || k > count) {
                return OUTSIDE;
            }
            count -= k;
            return count;
        }

        int sumOf(int h, int then) {
            int sum = 0;
            for (int k = 0; k < count; k++) {
                sum += house[k] == h && when[k] == then ? amount[k] : 0;
            }
            return sum;
        }

        boolean areWearOf(Weeks weeks) {
            for (int k = 0; k < count; k++) {
                if (weeks.wearAt(house[k], when[k]) != amount[k]) {
                    return false;
                }
            }
            return true;
        }
    }

    /** The WEEKS half by half, as they are or as one thing in them were otherwise. */
    private static final class Weeks {
        private final int[] woods = new int[MOST_HOUSES * TIMES];
        private final int[] wears = new int[MOST_HOUSES * TIMES];
        private final int[] colds = new int[TIMES];
        private final int[] woodNow = new int[MOST_HOUSES];
        private final int[] wearNow = new int[MOST_HOUSES];
        final int[] wants = new int[MOST_PERSONS];
        private final Kept gifts;
        private Told told;
        private int away = 0;
        int seam = 0;
        int moreHouse = NONE;
        int moreWood = 0;

        Weeks(Told first, Kept given) {
            told = first;
            gifts = given;
        }

        /** All as it is; a caller that tries something changes it ahead of live. */
        void prepare(Told nowTold, int nowAway) {
            told = nowTold;
            away = nowAway;
            seam = told.seam;
            moreHouse = NONE;
            moreWood = 0;
            for (int p = 0; p < told.persons; p++) {
                wants[p] = wantsOf(told.kind[p], told.burns[p]);
            }
        }

        /** Goes through the first weeks, till one of those watched is COLD: whether none of them was. */
        boolean live(int weeks, int watched) {
            Arrays.fill(woodNow, 0);
            Arrays.fill(wearNow, 0);
            int first = told.townIn(0, seam) & ~away;
            int second = told.townIn(seam, seam) & ~away;
            for (int time = 0; time < weeks * HALVES && time < TIMES; time++) {
                int half = time % HALVES;
                if (half == 0) {
                    bringWood(time / HALVES);
                }
                int in = half < seam ? first : second;
                int cold = takeWood(in);
                if (half == seam - 1 || half == HALVES - 1) {
                    mend(in & ~cold);
                }
                note(time, cold);
                if ((cold & watched) != 0) {
                    return false;
                }
            }
            return true;
        }

        private void bringWood(int week) {
            for (int h = 0; h < told.houses; h++) {
                int more = h == moreHouse && week == 0 ? moreWood : 0;
                int sum = woodNow[h] + told.comes[h] + gifts.sumOf(h, week) + more;
                woodNow[h] = Math.min(MOST_WOOD, sum);
            }
        }

        /** Those who are in take wood by numbers: who of them is COLD. */
        private int takeWood(int in) {
            int cold = 0;
            for (int p = 0; p < told.persons; p++) {
                if ((in >> p & 1) == 0) {
                    continue;
                }
                int h = told.house[p];
                if (told.breaksBy(h, wearNow[h])) {
                    cold |= 1 << p;
                    continue;
                }
                if (woodNow[h] >= wants[p]) {
                    woodNow[h] -= wants[p];
                } else {
                    cold |= 1 << p;
                }
                wearNow[h]++;
            }
            return cold;
        }

        private void mend(int menders) {
            for (int p = 0; p < told.persons; p++) {
                int h = told.house[p];
                if ((menders >> p & 1) == 1 && !told.breaksBy(h, wearNow[h])) {
                    wearNow[h] = Math.max(0, wearNow[h] - told.mends[p]);
                }
            }
        }

        private void note(int time, int cold) {
            colds[time] = cold;
            for (int h = 0; h < told.houses; h++) {
                woods[h * TIMES + time] = woodNow[h];
                wears[h * TIMES + time] = wearNow[h];
            }
        }

        int woodAt(int h, int time) {
            return woods[h * TIMES + time];
        }

        int wearAt(int h, int time) {
            return wears[h * TIMES + time];
        }

        int coldAt(int time) {
            return colds[time];
        }

        int wearTogether(int time) {
            int sum = 0;
            for (int h = 0; h < told.houses; h++) {
                sum += wearAt(h, time);
            }
            return sum;
        }

        /** CHILLS of all PERSONS of a set by a WEEK. */
        int chillsOf(int set, int week) {
            int sum = 0;
            for (int time = 0; time < (week + 1) * HALVES && time < TIMES; time++) {
                sum += Integer.bitCount(colds[time] & set);
            }
            return sum;
        }
    }
}
