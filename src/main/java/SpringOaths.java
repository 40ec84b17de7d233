/**
 * Springs by contradiction: a moor where water wells up under those who swear that there is none.
 * Every method answers a number; those below 0 are mostly refusals (see README.md).
 * All rows are made with the object and used again, so that no call makes anything.
 */
public final class SpringOaths {
    public static final int BAD = -1, FULL = -2, NONE = -3;

    private static final int NO_ROW = -9;
    private static final int NOTHING_THERE = -11;
    private static final int OUTSIDE = -12;
    private static final int OTHER_SORT = -13;
    private static final int BELOW_ZERO = -14;
    private static final int PARTED_BY_ZERO = -15;
    private static final int TAPE_REFUSED = -100;

    private static final int CELLS = 32;
    private static final int COLUMNS = 8;
    private static final int HEIGHT_MOST = 9;
    private static final int WATER_MOST = 99;
    private static final int WET_FROM = 10;

    private static final int PEOPLE_MOST = 8;
    private static final int SENSE_MOST = 9;
    private static final int SURE_MOST = 99;
    private static final int SURE_ENOUGH = 50;
    private static final int DISAGREE_FROM = 30;

    private static final int KINDS = 6;
    private static final int SWORN = 0;
    private static final int ENGINEER = 1;
    private static final int DOUBTER = 2;
    private static final int EXPERT = 3;
    private static final int DOWSER = 4;
    private static final int DRUNKARD = 5;
    /** The KIND that each KIND is under; none (-1) for sworn. */
    private static final int[] KIND_ABOVE = {-1, SWORN, SWORN, ENGINEER, DOUBTER, SWORN};

    private static final int LAWS = 4;
    private static final int SPRING = 0;
    private static final int SEEP = 1;
    private static final int BOG = 2;
    private static final int DRINK = 3;
    private static final int[] LAW_MOST = {9, 9, 50, 99};
    private static final int[] LAW_AT_FIRST = {2, 3, 20, 20};
    private static final int HEIGHT_AT_FIRST = 5;
    private static final int SURE_IF_UNTOLD = 50;

    private static final int LONG_TIME = 60;
    private static final int SHORT_TIME = 20;
    private static final int REVELS_MOST = 30;
    private static final int ODDS_MOST = 8;
    private static final int HOPE_MOST = 99;
    private static final int HUNDRED = 100;

    private static final int TAPE_MOST = 200;
    private static final int DIGITS_MOST = 3;
    private static final int ROWS_MOST = 10;
    private static final int ROW_PARTS = 3;

    private static final int SHEETS = 4;
    private static final int SORTS = 4;
    private static final int BYTES = 0;
    private static final int SHORTS = 1;
    private static final int MISSING = -1;
    private static final int ITEMS_MOST = 40;
    private static final int ANY = -1;
    private static final int MINDS_MOST = 8;

    private static final int SHELVES = 4;
    private static final int ONE_OF_PEOPLE = 0;
    private static final int SHEET_ROW = 1;
    private static final int NOTHING = 2;
    private static final int AS_ROW = 10;

    private static final int ACTS = 4;
    private static final int SWEARS = 0;
    private static final int DOUBTS = 1;
    private static final int PARTS = 2;
    /** The body that a thing of a KIND (by 4) runs for an ACT, if it isn't called by super. */
    private static final int[] BODIES = {
        10, 11, 12, 13,
        10, 20, 12, 13,
        30, 11, 12, 31,
        51, 20, 50, 13,
        40, 41, 12, 31,
        10, 11, 61, 60,
    };
    private static final int TRACE_MOST = 30;
    private static final int DEEPEST = 40;

    private final Moor now;
    private final Moor tried;
    private final Moor kept;
    private boolean anyKept;
    private final Tape tape;

    private final int[][] rows;
    private int rowCount;

    private final int[] sheetSorts;
    private final int[] sheetSizes;
    private final long[][] sheetItems;

    private final int[] shelfWhats;
    /** The number of one of PEOPLE, or how many items the held row has. */
    private final int[] shelfNumbers;
    /** A held row's own sort: its SHEET may have become another row since. */
    private final int[] shelfSorts;

    private final Acting acting;

    public SpringOaths() {
        now = new Moor();
        tried = new Moor();
        kept = new Moor();
        tape = new Tape();
        rows = new int[ROWS_MOST][ROW_PARTS];
        sheetSorts = new int[SHEETS];
        sheetSizes = new int[SHEETS];
        sheetItems = new long[SHEETS][ITEMS_MOST];
        shelfWhats = new int[SHELVES];
        shelfNumbers = new int[SHELVES];
        shelfSorts = new int[SHELVES];
        acting = new Acting();
        for (int i = 0; i < SHEETS; i++) {
            sheetSorts[i] = MISSING;
        }
        for (int i = 0; i < SHELVES; i++) {
            shelfWhats[i] = NOTHING;
        }
    }

    // ---- what is told to the moor, and asked of how it is now

    public int feed(long eight, int n) {
        if (n < 1 || n > 8) {
            return BAD;
        }
        return tape.takes(eight, n) ? tape.length : FULL;
    }

    public int moor() {
        tried.clear();
        int fault = tape.readInto(tried);
        tape.length = 0;
        if (fault >= 0) {
            return TAPE_REFUSED - fault;
        }
        tried.z = now.z;
        now.become(tried);
        rowCount = 0;
        return now.count;
    }

    public int set(int law, int v) {
        if (!isLaw(law) || !isWithin(v, LAW_MOST[law])) {
            return BAD;
        }
        int was = now.laws[law];
        now.laws[law] = v;
        return was;
    }

    public int lawOf(int law) {
        return isLaw(law) ? now.laws[law] : BAD;
    }

    public int person(int kind, int sense, int sure, int at) {
        if (!isKind(kind) || !isWithin(sense, SENSE_MOST) || !isWithin(sure, SURE_MOST) || !isCell(at)) {
            return BAD;
        }
        if (now.count >= PEOPLE_MOST) {
            return FULL;
        }
        return now.comes(kind, sense, sure, at);
    }

    public int of(int person, int what) {
        if (!isPerson(person)) {
            return BAD;
        }
        switch (what) {
            case 0: return now.kinds[person];
            case 1: return now.senses[person];
            case 2: return now.sures[person];
            case 3: return now.ats[person];
            case 4: return now.welling(person);
            case 5: return now.winning(person);
            case 6: return now.isLost(person) ? 1 : 0;
            case 7: return now.opponents(person);
            default: return BAD;
        }
    }

    public int loses(int person) {
        return isPerson(person) ? 1000 + now.losing(person) : BAD;
    }

    public int mind(int person, int kind, int sense) {
        if (!isPerson(person) || !isKind(kind) || !isWithin(sense, SENSE_MOST)) {
            return BAD;
        }
        int was = now.kinds[person];
        now.kinds[person] = kind;
        now.senses[person] = sense;
        return was;
    }

    public int sure(int person, int v) {
        if (!isPerson(person) || !isWithin(v, SURE_MOST)) {
            return BAD;
        }
        int was = now.sures[person];
        now.sures[person] = v;
        return was;
    }

    public int bring(int person, int cell) {
        if (!isPerson(person) || !isCell(cell)) {
            return BAD;
        }
        int was = now.ats[person];
        now.ats[person] = cell;
        return was;
    }

    public int cell(int cell, int what) {
        if (!isCell(cell)) {
            return BAD;
        }
        switch (what) {
            case 0: return now.waters[cell];
            case 1: return now.heights[cell];
            case 2: return now.peopleAt(cell);
            case 3: return now.wellingAt(cell);
            case 4: return now.disputesAt(cell);
            default: return BAD;
        }
    }

    public int lowest(int cell) {
        if (!isCell(cell)) {
            return BAD;
        }
        return now.lowests[cell] < 0 ? NONE : now.lowests[cell];
    }

    public int water(int cell, int v) {
        if (!isCell(cell) || !isWithin(v, WATER_MOST)) {
            return BAD;
        }
        int was = now.waters[cell];
        now.waters[cell] = v;
        return was;
    }

    public int height(int cell, int v) {
        if (!isCell(cell) || !isWithin(v, HEIGHT_MOST)) {
            return BAD;
        }
        int was = now.heights[cell];
        now.raise(cell, v);
        return was;
    }

    public long wets(int what) {
        switch (what) {
            case 0: return now.wetCells();
            case 1: return now.trodCells();
            case 2: return now.hollows();
            default: return BAD;
        }
    }

    // ---- years, and what is tried by them

    public int years(int n) {
        if (n < 1 || n > LONG_TIME) {
            return BAD;
        }
        now.passYears(n);
        return Long.bitCount(now.wetCells());
    }

    public int seed(int v) {
        int was = now.z;
        now.z = v;
        return was;
    }

    public int year() {
        now.passYearByDraws();
        return Integer.bitCount(now.lostPeople());
    }

    public int revel(int n) {
        if (n < 1 || n > REVELS_MOST) {
            return BAD;
        }
        int lostNow = Integer.bitCount(now.lostPeople());
        int z = now.z;
        int found = 0;
        for (int i = 0; i < n; i++) {
            tried.become(now);
            tried.z = z;
            tried.passYearByDraws();
            z = tried.z;
            if (Integer.bitCount(tried.lostPeople()) > lostNow) {
                found++;
            }
        }
        return found;
    }

    public int state(int what) {
        switch (what) {
            case 0: return now.year;
            case 1: return now.allWater();
            case 2: return now.lostPeople();
            case 3: return now.allSure();
            case 4: return now.disputes();
            default: return BAD;
        }
    }

    public int level(int cell, int n) {
        if (!isCell(cell) || !isWithin(n, LONG_TIME)) {
            return BAD;
        }
        tried.become(now);
        tried.passYears(n);
        return tried.waters[cell];
    }

    public int damp(int cell) {
        if (!isCell(cell)) {
            return BAD;
        }
        tried.become(now);
        for (int n = 0; n <= LONG_TIME; n++) {
            if (tried.isWet(cell)) {
                return n;
            }
            tried.passYear();
        }
        return NONE;
    }

    public int loss(int person) {
        if (!isPerson(person)) {
            return BAD;
        }
        tried.become(now);
        for (int n = 0; n <= LONG_TIME; n++) {
            if (tried.isLost(person)) {
                return n;
            }
            tried.passYear();
        }
        return NONE;
    }

    public int drowned() {
        tried.become(now);
        for (int n = 0; n <= LONG_TIME; n++) {
            if ((tried.trodCells() & ~tried.wetCells()) == 0) {
                return n;
            }
            tried.passYear();
        }
        return NONE;
    }

    public int whereFor(int person, int cell, int n) {
        if (!isPerson(person) || !isCell(cell) || !isShortTime(n)) {
            return BAD;
        }
        int best = 0;
        int most = -1;
        for (int where = 0; where < CELLS; where++) {
            tried.become(now);
            tried.ats[person] = where;
            tried.passYears(n);
            if (tried.waters[cell] > most) {
                most = tried.waters[cell];
                best = where;
            }
        }
        return best;
    }

    public int kindFor(int person, int cell, int n) {
        if (!isPerson(person) || !isCell(cell) || !isShortTime(n)) {
            return BAD;
        }
        int best = 0;
        int most = -1;
        for (int kind = 0; kind < KINDS; kind++) {
            tried.become(now);
            tried.kinds[person] = kind;
            tried.passYears(n);
            if (tried.waters[cell] > most) {
                most = tried.waters[cell];
                best = kind;
            }
        }
        return best;
    }

    public int annoyed(int person, int cell, int n) {
        if (!isPerson(person) || !isCell(cell) || !isShortTime(n)) {
            return BAD;
        }
        for (int v = 0; v <= SURE_MOST; v++) {
            tried.become(now);
            tried.sures[person] = v;
            tried.passYears(n);
            if (tried.isWet(cell)) {
                return v;
            }
        }
        return NONE;
    }

    public int needed(int cell, int n) {
        if (!isCell(cell) || !isShortTime(n)) {
            return BAD;
        }
        int least = levelWithout(0, cell, n);
        int best = NONE;
        for (int person = 0; person < now.count; person++) {
            int without = levelWithout(1 << person, cell, n);
            if (without < least) {
                least = without;
                best = person;
            }
        }
        return best;
    }

    public int fewest(int cell, int n) {
        if (!isCell(cell) || !isShortTime(n)) {
            return BAD;
        }
        int all = (1 << now.count) - 1;
        int best = NONE;
        int size = PEOPLE_MOST + 1;
        for (int people = 0; people <= all; people++) {
            if (Integer.bitCount(people) < size && levelWithout(all & ~people, cell, n) >= WET_FROM) {
                size = Integer.bitCount(people);
                best = people;
            }
        }
        return best;
    }

    public int ends(int cell) {
        if (!isCell(cell)) {
            return BAD;
        }
        int at = cell;
        for (int i = 0; i < CELLS && now.lowests[at] >= 0; i++) {
            at = now.lowests[at];
        }
        return at;
    }

    public int fits(int sheet, int cell, int person, int what) {
        if (!isSheet(sheet) || !isCell(cell) || !isPerson(person) || !isWithin(what, 1)) {
            return BAD;
        }
        if (sheetSorts[sheet] == MISSING) {
            return NOTHING_THERE;
        }
        int found = 0;
        int least = NONE;
        for (int v = SURE_MOST; v >= 0; v--) {
            if (fitsWith(v, person, cell, sheet)) {
                found++;
                least = v;
            }
        }
        return what == 0 ? found : least;
    }

    // ---- odds of drink

    public long odds(int n, int k, int part) {
        if (!isWithin(n, ODDS_MOST) || !isWithin(k, n) || !isWithin(part, 1)) {
            return BAD;
        }
        long above = 1;
        long below = 1;
        for (int i = 0; i < k; i++) {
            above = above * (n - i) / (i + 1);
        }
        for (int i = 0; i < n; i++) {
            above *= i < k ? now.laws[DRINK] : HUNDRED - now.laws[DRINK];
            below *= HUNDRED;
        }
        return partOf(above, below, part);
    }

    public long hope(int n, int part) {
        if (!isWithin(n, HOPE_MOST) || !isWithin(part, 1)) {
            return BAD;
        }
        return partOf((long) n * now.laws[DRINK], HUNDRED, part);
    }

    // ---- rows of years

    public int prove(int person, int n) {
        if (!isPerson(person) || n < 1 || n > ROWS_MOST) {
            return BAD;
        }
        tried.become(now);
        for (int i = 0; i < n; i++) {
            tried.passYear();
            for (int what = 0; what < ROW_PARTS; what++) {
                rows[i][what] = tried.partOfRow(person, what);
            }
        }
        rowCount = n;
        return n;
    }

    public int row(int i, int what) {
        return isRowPart(i, what) ? rows[i][what] : NO_ROW;
    }

    public int alterRow(int i, int what, int v) {
        if (!isRowPart(i, what)) {
            return NO_ROW;
        }
        int was = rows[i][what];
        rows[i][what] = v;
        return was;
    }

    public int judge(int person) {
        if (!isPerson(person)) {
            return BAD;
        }
        tried.become(now);
        for (int i = 0; i < rowCount; i++) {
            tried.passYear();
            for (int what = 0; what < ROW_PARTS; what++) {
                if (rows[i][what] != tried.partOfRow(person, what)) {
                    return i + 1;
                }
            }
        }
        return 0;
    }

    // ---- sheets and shelves

    public int minds(int sheet, int i, int person, int n) {
        if (!isSheet(sheet) || !isPerson(person) || !isWithin(n, MINDS_MOST) || person + n > now.count) {
            return BAD;
        }
        if (sheetSorts[sheet] == MISSING) {
            return NOTHING_THERE;
        }
        if (sheetSorts[sheet] != BYTES) {
            return OTHER_SORT;
        }
        if (!isWithin(i, sheetSizes[sheet]) || n > sheetSizes[sheet] - i) {
            return OUTSIDE;
        }
        for (int k = 0; k < n; k++) {
            now.sures[person + k] = heldSure((int) sheetItems[sheet][i + k]);
        }
        return n;
    }

    public int sheet(int sheet, int sort, int n) {
        if (!isSheet(sheet) || sort < MISSING || sort >= SORTS) {
            return BAD;
        }
        int size = sort == MISSING ? 0 : n;
        if (size > ITEMS_MOST) {
            return BAD;
        }
        if (size < 0) {
            return BELOW_ZERO;
        }
        sheetSorts[sheet] = sort;
        sheetSizes[sheet] = size;
        for (int i = 0; i < ITEMS_MOST; i++) {
            sheetItems[sheet][i] = 0;
        }
        return 1;
    }

    public int put(int sheet, int i, int v) {
        if (!isSheet(sheet)) {
            return BAD;
        }
        if (sheetSorts[sheet] == MISSING) {
            return NOTHING_THERE;
        }
        if (i < 0 || i >= sheetSizes[sheet]) {
            return OUTSIDE;
        }
        sheetItems[sheet][i] = narrowed(v, sheetSorts[sheet]);
        return 1;
    }

    public int item(int sheet, int sort, int i) {
        if (!isSheet(sheet) || !isSort(sort)) {
            return BAD;
        }
        if (sheetSorts[sheet] == MISSING) {
            return NOTHING_THERE;
        }
        if (sheetSorts[sheet] != sort) {
            return OTHER_SORT;
        }
        if (i < 0 || i >= sheetSizes[sheet]) {
            return OUTSIDE;
        }
        return (int) sheetItems[sheet][i];
    }

    public int shelf(int shelf, int what, int n) {
        if (!isShelf(shelf)) {
            return BAD;
        }
        switch (what) {
            case ONE_OF_PEOPLE:
                return isPerson(n) ? shelve(shelf, ONE_OF_PEOPLE, n, MISSING) : BAD;
            case SHEET_ROW:
                if (!isSheet(n)) {
                    return BAD;
                }
                return shelve(shelf, sheetSorts[n] == MISSING ? NOTHING : SHEET_ROW, sheetSizes[n], sheetSorts[n]);
            case NOTHING:
                return shelve(shelf, NOTHING, 0, MISSING);
            default:
                return BAD;
        }
    }

    public int taken(int shelf, int as) {
        if (!isShelf(shelf) || !isKind(as) && (as < AS_ROW || as >= AS_ROW + SORTS)) {
            return BAD;
        }
        if (holdsRow(shelf)) {
            return shelfSorts[shelf] == as - AS_ROW ? shelfNumbers[shelf] : OTHER_SORT;
        }
        if (!holdsPerson(shelf)) {
            return NOTHING_THERE;
        }
        int person = shelfNumbers[shelf];
        return isKind(as) && isUnder(now.kinds[person], as) ? person : OTHER_SORT;
    }

    public int act(int shelf, int act, int x) {
        acting.forget();
        if (!isShelf(shelf) || !isWithin(act, ACTS - 1) || !holdsPerson(shelf)) {
            return 0;
        }
        int person = shelfNumbers[shelf];
        return acting.perform(person, now.kinds[person], now.senses[person], act, x);
    }

    public int trace(int i) {
        return i >= 0 && i < acting.count ? acting.bodies[i] : NONE;
    }

    public int many(int what) {
        switch (what) {
            case 0: return now.count;
            case 1: return Long.bitCount(now.wetCells());
            case 2: return Integer.bitCount(now.lostPeople());
            case 3: return Long.bitCount(now.hollows());
            case 4: return rowCount;
            case 5: return tape.length;
            case 6: return acting.count;
            default: return BAD;
        }
    }

    public int keep() {
        kept.become(now);
        anyKept = true;
        return 1;
    }

    public int again() {
        if (!anyKept) {
            return NONE;
        }
        now.become(kept);
        return now.count;
    }

    // ---- what the calls above share

    /** LEVEL of a CELL by n, where a set of PEOPLE is without effect. */
    private int levelWithout(int people, int cell, int n) {
        tried.become(now);
        tried.idle = people;
        tried.passYears(n);
        return tried.waters[cell];
    }

    private boolean fitsWith(int v, int person, int cell, int sheet) {
        tried.become(now);
        tried.sures[person] = v;
        for (int i = 0; i < sheetSizes[sheet]; i++) {
            tried.passYear();
            long told = sheetItems[sheet][i];
            if (told != ANY && told != tried.waters[cell]) {
                return false;
            }
        }
        return true;
    }

    private int shelve(int shelf, int what, int number, int sort) {
        shelfWhats[shelf] = what;
        shelfNumbers[shelf] = number;
        shelfSorts[shelf] = sort;
        return 1;
    }

    private boolean holdsRow(int shelf) {
        return shelfWhats[shelf] == SHEET_ROW;
    }

    /** One that is gone since it was put there counts as nothing. */
    private boolean holdsPerson(int shelf) {
        return shelfWhats[shelf] == ONE_OF_PEOPLE && isPerson(shelfNumbers[shelf]);
    }

    private boolean isPerson(int person) {
        return person >= 0 && person < now.count;
    }

    private boolean isRowPart(int i, int what) {
        return i >= 0 && i < rowCount && what >= 0 && what < ROW_PARTS;
    }

    private static boolean isWithin(int v, int most) {
        return v >= 0 && v <= most;
    }

    private static boolean isShortTime(int n) {
        return n >= 1 && n <= SHORT_TIME;
    }

    private static boolean isCell(int cell) {
        return cell >= 0 && cell < CELLS;
    }

    private static boolean isKind(int kind) {
        return kind >= 0 && kind < KINDS;
    }

    private static boolean isLaw(int law) {
        return law >= 0 && law < LAWS;
    }

    private static boolean isSheet(int sheet) {
        return sheet >= 0 && sheet < SHEETS;
    }

    private static boolean isSort(int sort) {
        return sort >= 0 && sort < SORTS;
    }

    private static boolean isShelf(int shelf) {
        return shelf >= 0 && shelf < SHELVES;
    }

    /** Whether a KIND is another one, or under it. */
    private static boolean isUnder(int kind, int as) {
        int at = kind;
        for (int i = 0; i < KINDS && at >= 0 && at != as; i++) {
            at = KIND_ABOVE[at];
        }
        return at == as;
    }

    private static int heldSure(int v) {
        return Math.max(0, Math.min(SURE_MOST, v));
    }

    private static long narrowed(int v, int sort) {
        switch (sort) {
            case BYTES: return (byte) v;
            case SHORTS: return (short) v;
            default: return v;
        }
    }

    /** A part of above by below (below is above 0), without a common divisor. */
    private static long partOf(long above, long below, int part) {
        long divisor = below;
        long rest = above;
        // Euclid's steps on longs are under a hundred.
        for (int i = 0; i < HUNDRED && rest != 0; i++) {
            long next = divisor % rest;
            divisor = rest;
            rest = next;
        }
        if (divisor == 0) {
            return BAD;
        }
        return (part == 0 ? above : below) / divisor;
    }

    /** All that YEARS change or go by: the moor now, a tried one, or the kept one. */
    private static final class Moor {
        final int[] laws = new int[LAWS];
        int year;
        int z;
        final int[] heights = new int[CELLS];
        final int[] waters = new int[CELLS];
        /** The LOWEST of each CELL, -1 for none; they change with heights alone. */
        final int[] lowests = new int[CELLS];
        int count;
        final int[] kinds = new int[PEOPLE_MOST];
        final int[] senses = new int[PEOPLE_MOST];
        final int[] sures = new int[PEOPLE_MOST];
        final int[] ats = new int[PEOPLE_MOST];
        /** Those who are without effect, as a set; nobody but where it is tried. */
        int idle;

        Moor() {
            z = 1;
            clear();
        }

        /** All but z becomes as at first. */
        void clear() {
            for (int law = 0; law < LAWS; law++) {
                laws[law] = LAW_AT_FIRST[law];
            }
            for (int cell = 0; cell < CELLS; cell++) {
                heights[cell] = HEIGHT_AT_FIRST;
                waters[cell] = 0;
                lowests[cell] = -1;
            }
            year = 0;
            count = 0;
            idle = 0;
        }

        void become(Moor other) {
            System.arraycopy(other.laws, 0, laws, 0, LAWS);
            System.arraycopy(other.heights, 0, heights, 0, CELLS);
            System.arraycopy(other.waters, 0, waters, 0, CELLS);
            System.arraycopy(other.lowests, 0, lowests, 0, CELLS);
            System.arraycopy(other.kinds, 0, kinds, 0, PEOPLE_MOST);
            System.arraycopy(other.senses, 0, senses, 0, PEOPLE_MOST);
            System.arraycopy(other.sures, 0, sures, 0, PEOPLE_MOST);
            System.arraycopy(other.ats, 0, ats, 0, PEOPLE_MOST);
            year = other.year;
            z = other.z;
            count = other.count;
            idle = other.idle;
        }

        /** One more, if there is room: its number. */
        int comes(int kind, int sense, int sure, int at) {
            if (count >= PEOPLE_MOST) {
                return FULL;
            }
            kinds[count] = kind;
            senses[count] = sense;
            sures[count] = sure;
            ats[count] = at;
            count++;
            return count - 1;
        }

        void raise(int cell, int v) {
            heights[cell] = v;
            for (int i = 0; i < CELLS; i++) {
                lowests[i] = lowestBeside(i);
            }
        }

        // Asked by growing numbers, so of several equal ones the least stays.
        private int lowestBeside(int cell) {
            int best = cell;
            if (cell >= COLUMNS) {
                best = lower(best, cell - COLUMNS);
            }
            if (cell % COLUMNS > 0) {
                best = lower(best, cell - 1);
            }
            if (cell % COLUMNS < COLUMNS - 1) {
                best = lower(best, cell + 1);
            }
            if (cell < CELLS - COLUMNS) {
                best = lower(best, cell + COLUMNS);
            }
            return best == cell ? -1 : best;
        }

        private int lower(int best, int other) {
            return heights[other] < heights[best] ? other : best;
        }

        boolean isWet(int cell) {
            return waters[cell] >= WET_FROM;
        }

        boolean isLost(int person) {
            return sures[person] == 0;
        }

        boolean isIdle(int person) {
            return (idle >> person & 1) != 0;
        }

        boolean disagree(int one, int other) {
            return ats[one] == ats[other]
                && !isLost(one) && !isLost(other)
                && !isIdle(one) && !isIdle(other)
                && Math.abs(sures[one] - sures[other]) >= DISAGREE_FROM;
        }

        int welling(int person) {
            if (isIdle(person)) {
                return 0;
            }
            int sworn = sures[person] >= SURE_ENOUGH ? senses[person] : 0;
            int doubted = sworn == 0 && !isLost(person) ? 1 : sworn;
            switch (kinds[person]) {
                case ENGINEER: return 2 * sworn;
                case EXPERT: return 2 * sworn + laws[SPRING];
                case DOUBTER: return doubted;
                case DOWSER: return doubted / 2;
                case DRUNKARD: return year % 2 == 0 ? sworn : 0;
                default: return sworn;
            }
        }

        int losing(int person) {
            int sworn = 10;
            switch (kinds[person]) {
                case ENGINEER: return sworn / 2;
                case EXPERT: return 0;
                case DOUBTER: return sworn + senses[person];
                case DOWSER: return sworn + senses[person] - 15;
                case DRUNKARD: return 3 * sworn;
                default: return sworn;
            }
        }

        int winning(int person) {
            int sworn = 3;
            switch (kinds[person]) {
                case ENGINEER: return sworn + 2;
                case EXPERT: return sworn + 2;
                case DOUBTER: return sworn - 2;
                case DOWSER: return sworn - 2;
                case DRUNKARD: return 0;
                default: return sworn;
            }
        }

        int opponents(int person) {
            int found = 0;
            for (int other = 0; other < count; other++) {
                if (disagree(person, other)) {
                    found |= 1 << other;
                }
            }
            return found;
        }

        int peopleAt(int cell) {
            int found = 0;
            for (int person = 0; person < count; person++) {
                if (ats[person] == cell) {
                    found |= 1 << person;
                }
            }
            return found;
        }

        int wellingAt(int cell) {
            int sum = 0;
            for (int person = 0; person < count; person++) {
                if (ats[person] == cell) {
                    sum += welling(person);
                }
            }
            return sum;
        }

        int disputesAt(int cell) {
            int pairs = 0;
            for (int person = 0; person < count; person++) {
                if (ats[person] == cell) {
                    pairs += Integer.bitCount(opponents(person));
                }
            }
            return pairs / 2;
        }

        int disputes() {
            int pairs = 0;
            for (int person = 0; person < count; person++) {
                pairs += Integer.bitCount(opponents(person));
            }
            return pairs / 2;
        }

        int lostPeople() {
            int found = 0;
            for (int person = 0; person < count; person++) {
                if (isLost(person)) {
                    found |= 1 << person;
                }
            }
            return found;
        }

        int allSure() {
            int sum = 0;
            for (int person = 0; person < count; person++) {
                sum += sures[person];
            }
            return sum;
        }

        int allWater() {
            int sum = 0;
            for (int cell = 0; cell < CELLS; cell++) {
                sum += waters[cell];
            }
            return sum;
        }

        long wetCells() {
            long found = 0;
            for (int cell = 0; cell < CELLS; cell++) {
                if (isWet(cell)) {
                    found |= 1L << cell;
                }
            }
            return found;
        }

        long trodCells() {
            long found = 0;
            for (int person = 0; person < count; person++) {
                found |= 1L << ats[person];
            }
            return found;
        }

        /** CELLS that have no LOWEST. */
        long hollows() {
            long found = 0;
            for (int cell = 0; cell < CELLS; cell++) {
                if (lowests[cell] < 0) {
                    found |= 1L << cell;
                }
            }
            return found;
        }

        int partOfRow(int person, int what) {
            switch (what) {
                case 0: return sures[person];
                case 1: return waters[ats[person]];
                default: return lostPeople();
            }
        }

        void passYears(int n) {
            for (int i = 0; i < n; i++) {
                passYear();
            }
        }

        void passYear() {
            wellUp();
            runDown();
            changeMinds();
            year++;
        }

        void passYearByDraws() {
            if (count > 0) {
                int one = draw() % count;
                if (draw() % HUNDRED < laws[DRINK]) {
                    sures[one] /= 2;
                }
            }
            passYear();
        }

        private int draw() {
            z = z * 1103515245 + 12345;
            return z >>> 16;
        }

        private void pour(int cell, int more) {
            waters[cell] = Math.min(WATER_MOST, waters[cell] + more);
        }

        // Nothing that wells or seeps is below 0, so what is lost by parts is what is lost at once.
        private void wellUp() {
            for (int person = 0; person < count; person++) {
                pour(ats[person], welling(person));
                for (int other = 0; other < person; other++) {
                    if (disagree(person, other)) {
                        pour(ats[person], laws[SEEP]);
                    }
                }
            }
        }

        private void runDown() {
            for (int cell = 0; cell < CELLS; cell++) {
                int goes = (waters[cell] - laws[BOG]) / 2;
                if (goes > 0 && lowests[cell] >= 0) {
                    waters[cell] -= goes;
                    pour(lowests[cell], goes);
                }
            }
        }

        private void changeMinds() {
            for (int person = 0; person < count; person++) {
                if (!isLost(person)) {
                    int more = isWet(ats[person]) ? -losing(person) : winning(person);
                    sures[person] = heldSure(sures[person] + more);
                }
            }
        }
    }

    /** THE TAPE, and who reads its TEXT. */
    private static final class Tape {
        final byte[] bytes = new byte[TAPE_MOST];
        int length;
        private int place;
        /** The first FAULT's place, or -1; behind it nothing more is read. */
        private int fault;

        boolean takes(long eight, int n) {
            if (n > TAPE_MOST - length) {
                return false;
            }
            for (int i = 0; i < n; i++) {
                bytes[length] = (byte) (eight >>> 8 * i);
                length++;
            }
            return true;
        }

        /** The FAULT, or -1. */
        int readInto(Moor moor) {
            place = 0;
            fault = -1;
            skipBlanks();
            // Each sentence has a byte at least, or a FAULT.
            for (int i = 0; i < TAPE_MOST && place < length && fault < 0; i++) {
                readSentence(moor);
                readSign(';');
                skipBlanks();
            }
            return fault;
        }

        private void readSentence(Moor moor) {
            int kind = kindHere();
            int law = lawHere();
            if (kind >= 0) {
                readPerson(moor, kind);
            } else if (isHere("height")) {
                readName("height");
                int cell = readCell();
                moor.raise(cell, readNumber(HEIGHT_MOST));
            } else if (isHere("water")) {
                readName("water");
                int cell = readCell();
                moor.waters[cell] = readNumber(WATER_MOST);
            } else if (law >= 0) {
                readName(lawName(law));
                moor.laws[law] = readNumber(LAW_MOST[law]);
            } else {
                refuse(place);
            }
        }

        private void readPerson(Moor moor, int kind) {
            if (moor.count >= PEOPLE_MOST) {
                refuse(place);
            }
            readName(kindName(kind));
            readName("at");
            int at = readNumber(CELLS - 1);
            int sure = SURE_IF_UNTOLD;
            if (isHere("sure")) {
                readName("sure");
                sure = readNumber(SURE_MOST);
            }
            int sense = 0;
            if (isHere("sense")) {
                readName("sense");
                sense = readNumber(SENSE_MOST);
            }
            if (fault < 0) {
                moor.comes(kind, sense, sure, at);
            }
        }

        private int readCell() {
            int cell = readNumber(CELLS - 1);
            readName("is");
            return cell;
        }

        /** A NUMBER from 0 to most; 0, if there is a FAULT. */
        private int readNumber(int most) {
            skipBlanks();
            int begin = place;
            int value = 0;
            for (int i = 0; i < TAPE_MOST && isDigit(place); i++) {
                // More digits are a FAULT anyhow: they shan't wrap into the range.
                value = Math.min(1000, value * 10 + bytes[place] - '0');
                place++;
            }
            if (place == begin || place - begin > DIGITS_MOST || value > most) {
                refuse(begin);
            }
            return fault < 0 ? value : 0;
        }

        private void readName(String name) {
            if (isHere(name)) {
                place += name.length();
            } else {
                refuse(place);
            }
        }

        private void readSign(char sign) {
            skipBlanks();
            if (place < length && bytes[place] == sign) {
                place++;
            } else {
                refuse(place);
            }
        }

        private void skipBlanks() {
            for (int i = 0; i < TAPE_MOST && place < length && bytes[place] == ' '; i++) {
                place++;
            }
        }

        private void refuse(int at) {
            if (fault < 0) {
                fault = at;
            }
        }

        /** Skips blanks, and tells whether the NAME there, as long as it goes, is a told one. */
        private boolean isHere(String name) {
            skipBlanks();
            int end = place + name.length();
            if (end > length || isLetter(end)) {
                return false;
            }
            for (int i = 0; i < name.length(); i++) {
                if (bytes[place + i] != name.charAt(i)) {
                    return false;
                }
            }
            return true;
        }

        private int kindHere() {
            for (int kind = 0; kind < KINDS; kind++) {
                if (isHere(kindName(kind))) {
                    return kind;
                }
            }
            return -1;
        }

        private int lawHere() {
            for (int law = 0; law < LAWS; law++) {
                if (isHere(lawName(law))) {
                    return law;
                }
            }
            return -1;
        }

        private boolean isLetter(int at) {
            return at < length && bytes[at] >= 'a' && bytes[at] <= 'z';
        }

        private boolean isDigit(int at) {
            return at < length && bytes[at] >= '0' && bytes[at] <= '9';
        }

        private static String kindName(int kind) {
            switch (kind) {
                case ENGINEER: return "engineer";
                case DOUBTER: return "doubter";
                case EXPERT: return "expert";
                case DOWSER: return "dowser";
                case DRUNKARD: return "drunkard";
                default: return "sworn";
            }
        }

        private static String lawName(int law) {
            switch (law) {
                case SEEP: return "seep";
                case BOG: return "bog";
                case DRINK: return "drink";
                default: return "spring";
            }
        }
    }

    /** One of PEOPLE as a thing with ACTS, and THE TRACE of its latest act. */
    private static final class Acting {
        final int[] bodies = new int[TRACE_MOST];
        int count;
        private int number;
        private int kind;
        private int sense;
        private boolean parted;

        int perform(int person, int personKind, int personSense, int wanted, int x) {
            number = person;
            kind = personKind;
            sense = personSense;
            parted = false;
            int answer = run(own(wanted), x, 0);
            return parted ? PARTED_BY_ZERO : answer;
        }

        /** The body for an ACT by the thing's own KIND; the others are called as by super. */
        private int own(int wanted) {
            return BODIES[kind * ACTS + wanted];
        }

        private int run(int body, int x, int depth) {
            // Once it has parted by 0, no further body begins.
            if (parted || depth > DEEPEST) {
                return 0;
            }
            note(body);
            int deeper = depth + 1;
            switch (body) {
                case 10: return x + number * 3;
                case 11: return run(own(SWEARS), x, deeper) - sense;
                case 12: return part(x);
                case 13: return run(own(DOUBTS), x, deeper) ^ 9;
                case 20: return run(11, x, deeper) * 2;
                case 30: return run(10, x, deeper) + 1;
                case 31: return run(13, x, deeper) - run(own(PARTS), number, deeper);
                case 40: return 0 - run(30, x, deeper);
                case 41: return run(11, x, deeper) + run(own(SWEARS), sense, deeper);
                case 50: return run(12, x * 4, deeper) - sense;
                case 51: return run(10, x, deeper) ^ number;
                case 60: return 50 - run(13, x, deeper);
                case 61: return run(12, x, deeper) + run(own(SWEARS), number, deeper);
                default: return 0;
            }
        }

        private int part(int x) {
            if (sense == number) {
                parted = true;
                return 0;
            }
            return x / (sense - number);
        }

        void forget() {
            count = 0;
        }

        private void note(int body) {
            if (count < TRACE_MOST) {
                bodies[count] = body;
                count++;
            }
        }
    }
}
