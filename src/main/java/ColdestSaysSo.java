import java.util.Arrays;

/**
 * Winter is here when the coldest says so. The document is ../shared/DOC.md; its words in capitals
 * are used here as it uses them.
 *
 * <p>All rows are made in the constructor and used again: no call makes an object.
 */
public final class ColdestSaysSo {
    public static final int NONE = -1;

    private static final int BAD = -2;
    private static final int OTHER = -3;
    private static final int NOTHING = -4;
    private static final int STUCK = -5;
    private static final int FULL = -6;
    private static final int REFUSAL_SORTS = 5;
    private static final int FAULT_BASE = -20;

    private static final int PERSON = 0;
    private static final int PROUD = 1;
    private static final int THIN = 2;
    private static final int OLD = 3;
    private static final int LOVER = 4;
    private static final int STRANGER = 5;
    private static final int KIND_COUNT = 6;
    /** By KIND: the one that it is right under. */
    private static final int[] KIND_ABOVE = {NONE, PERSON, PERSON, PROUD, THIN, PERSON};

    private static final int MOST_PEOPLE = 8;
    private static final int MOST_A = 9;
    private static final int MOST_PRIDE = 20;
    private static final int MOST_BRANDY = 9;
    private static final int MOST_FED = 40;
    private static final int MOST_AIR = 40;
    private static final int MOST_FALL = 5;
    private static final int MOST_DAY = 999;
    private static final int MOST_COAL = 9;
    /** What give may put, by its what: PRIDE, BRANDY, FED. */
    private static final int[] MOST_GIVEN = {MOST_PRIDE, MOST_BRANDY, MOST_FED};
    /** What tell may put, by its what: AIR, FALL, DAY, COAL. */
    private static final int[] MOST_TOLD = {MOST_AIR, MOST_FALL, MOST_DAY, MOST_COAL};

    private static final int SHELF_COUNT = 8;
    private static final int SORT_COUNT = 5;
    private static final int MOST_ELEMENTS = 40;
    private static final int MOST_TWOS = 20;
    private static final int MOST_BYTES = 250;
    private static final int FAR = 60;
    private static final int VERY_FAR = 200;
    private static final int MOST_TURNS = 4;
    private static final int MOST_ODDS = 5;

    private final Country now = new Country();
    private final Country kept = new Country();
    private final Foresight foresight = new Foresight();
    private final Chances chances = new Chances();
    private final Turns turns = new Turns();
    private final Bowls bowls = new Bowls();
    private final Tape tape = new Tape();
    private final Shelf[] shelves = new Shelf[SHELF_COUNT];
    private final int[] refusals = new int[REFUSAL_SORTS];
    private boolean isKept = false;

    public ColdestSaysSo() {
        for (int s = 0; s < SHELF_COUNT; s++) {
            shelves[s] = new Shelf();
        }
    }

    // ---- SHELVES and ROWS

    public int row(int s, int sort, int n) {
        if (!isShelf(s) || !isWithin(sort, SORT_COUNT - 1) || !isWithin(n, MOST_ELEMENTS)) {
            return refuse(BAD);
        }
        shelves[s].holdRow(sort, n);
        return 1;
    }

    public int set(int s, int i, long v) {
        int fault = rowFault(s, 0);
        if (fault != 0) {
            return refuse(fault);
        }
        if (!shelves[s].hasPlace(i)) {
            return refuse(BAD);
        }
        shelves[s].put(i, v);
        return 1;
    }

    public int copy(int p, int q, int i, int j, int n) {
        if (!isShelf(p) || !isShelf(q)) {
            return refuse(BAD);
        }
        Shelf from = shelves[p];
        Shelf to = shelves[q];
        if (from.holdsOne() || to.holdsOne()) {
            return refuse(OTHER);
        }
        if (from.isBare() || to.isBare()) {
            return refuse(NOTHING);
        }
        if (from.sort != to.sort) {
            return refuse(OTHER);
        }
        if (!from.hasStretch(i, n) || !to.hasStretch(j, n)) {
            return refuse(BAD);
        }
        System.arraycopy(from.elements, i, to.elements, j, n);
        return n;
    }

    public long element(int s, int i) {
        return isShelf(s) ? shelves[s].at(i) : 0L;
    }

    public int holds(int s) {
        if (!isShelf(s)) {
            return NONE;
        }
        return shelves[s].holdsOne() ? 10 + shelves[s].shown : shelves[s].sort;
    }

    public int show(int s, int person) {
        if (!isShelf(s) || (person != NONE && !now.hasOne(person))) {
            return refuse(BAD);
        }
        shelves[s].holdOne(person);
        return 1;
    }

    public int says(int s, int kind) {
        if (!isShelf(s) || !isKind(kind)) {
            return refuse(BAD);
        }
        Shelf shelf = shelves[s];
        if (shelf.holdsRow()) {
            return refuse(OTHER);
        }
        int one = shelf.shown;
        if (!now.hasOne(one)) {
            return refuse(NOTHING);
        }
        if (!isOfOrUnder(now.kind[one], kind)) {
            return refuse(OTHER);
        }
        return kind == PERSON ? now.pride[one] : now.coldAs(now.kind[one], one);
    }

    // ---- THE COUNTRY and PEOPLE

    public int person(int kind, int a, int pride) {
        if (!isKind(kind) || !isWithin(a, MOST_A) || !isWithin(pride, MOST_PRIDE)) {
            return refuse(BAD);
        }
        return now.isFull() ? refuse(FULL) : now.settle(kind, a, pride);
    }

    public int give(int person, int what, int v) {
        if (!now.hasOne(person) || !isWithin(what, MOST_GIVEN.length - 1)) {
            return refuse(BAD);
        }
        if (!isWithin(v, MOST_GIVEN[what])) {
            return refuse(BAD);
        }
        int[] given = what == 0 ? now.pride : what == 1 ? now.brandy : now.fed;
        int was = given[person];
        given[person] = v;
        return was;
    }

    public int tell(int what, int v) {
        if (!isWithin(what, MOST_TOLD.length - 1) || !isWithin(v, MOST_TOLD[what])) {
            return refuse(BAD);
        }
        return now.change(what, v);
    }

    public int thaw() {
        boolean was = now.winter != NONE;
        now.winter = NONE;
        return asNumber(was);
    }

    public int feed(int letter) {
        if (!isWithin(letter, 255)) {
            return refuse(BAD);
        }
        return tape.isFull() ? refuse(FULL) : tape.append(letter);
    }

    public int wipe() {
        return tape.clear();
    }

    public int country() {
        Country draft = foresight.begin(now);
        int read = tape.readInto(draft);
        tape.clear();
        if (read < 0) {
            refuse(BAD);
            return read;
        }
        now.load(draft);
        return read;
    }

    public int personOf(int person, int what) {
        if (!now.hasOne(person)) {
            return refuse(BAD);
        }
        switch (what) {
            case 0: return now.kind[person];
            case 1: return now.a[person];
            case 2: return now.pride[person];
            case 3: return now.brandy[person];
            case 4: return now.fed[person];
            case 5: return now.coldAs(now.kind[person], person);
            case 6: return now.limitBy(now.pride[person], person);
            default: return refuse(BAD);
        }
    }

    // ---- THE COLD

    public int speaks(int person) {
        return now.hasOne(person) ? asNumber(now.isHeard(person)) : refuse(BAD);
    }

    public int coldest() {
        return now.coldestOne();
    }

    public int speaking() {
        int heard = 0;
        for (int i = 0; i < now.people; i++) {
            if (now.isHeard(i)) {
                heard |= 1 << i;
            }
        }
        return heard;
    }

    public int isSo() {
        return asNumber(now.standsSo());
    }

    public int rank(int i) {
        return isWithin(i, now.people - 1) ? now.ranked(i) : refuse(BAD);
    }

    // ---- WHAT COMES OF IT

    public int when(int what) {
        if (!isWithin(what, 1)) {
            return refuse(BAD);
        }
        Country then = foresight.begin(now);
        int first = then.firstSo(FAR);
        return what == 0 || first == NONE ? first : then.coldestOne();
    }

    public int ahead(int n, int what) {
        if (!isWithin(n, VERY_FAR) || !isWithin(what, 2)) {
            return refuse(BAD);
        }
        Country then = foresight.begin(now);
        then.coolDown(n);
        int one = then.coldestOne();
        if (what == 0) {
            return then.air;
        }
        if (what == 1) {
            return one;
        }
        return one == NONE ? 0 : then.coldAs(then.kind[one], one);
    }

    public int later(int person, int n) {
        if (!now.hasOne(person) || !isWithin(n, VERY_FAR)) {
            return refuse(BAD);
        }
        Country then = foresight.begin(now);
        then.coolDown(n);
        return then.coldAs(then.kind[person], person);
    }

    public int feeds(int t, int what) {
        if (!isWithin(t, FAR) || !isWithin(what, 2)) {
            return refuse(BAD);
        }
        if (now.people == 0) {
            return refuse(STUCK);
        }
        int much = foresight.leastFeed(now, t);
        if (what == 1) {
            return foresight.whom;
        }
        return what == 0 || much == NONE ? much : much * now.coal;
    }

    public int warm(int t) {
        return isWithin(t, FAR) ? foresight.fewestWarmed(now, t) : refuse(BAD);
    }

    public int out(int what) {
        if (!isWithin(what, 1)) {
            return refuse(BAD);
        }
        return now.people == 0 ? refuse(STUCK) : foresight.bestAway(now, what == 0);
    }

    public int prides(int s, int n, int person) {
        int fault = now.hasOne(person) ? twosFault(s, n) : BAD;
        if (fault != 0) {
            return refuse(fault);
        }
        if (!areAirs(shelves[s], n) || !areWhethers(shelves[s], n)) {
            return refuse(STUCK);
        }
        return foresight.pridesBy(now, shelves[s], n, person);
    }

    public int kinds(int s, int n, int person) {
        int fault = now.hasOne(person) ? twosFault(s, n) : BAD;
        if (fault != 0) {
            return refuse(fault);
        }
        if (!areAirs(shelves[s], n)) {
            return refuse(STUCK);
        }
        return foresight.kindsBy(now, shelves[s], n, person);
    }

    public int airs(int person, int what) {
        if (!now.hasOne(person) || !isWithin(what, 1)) {
            return refuse(BAD);
        }
        int many = 0;
        int greatest = NONE;
        Country then = foresight.begin(now);
        for (int air = 0; air <= MOST_AIR; air++) {
            then.air = air;
            if (then.coldestOne() == person) {
                many++;
                greatest = air;
            }
        }
        return what == 0 ? many : greatest;
    }

    // ---- BOWLS

    public int clash(int s, int n) {
        int fault = twosFault(s, n);
        return fault != 0 ? refuse(fault) : bowls.firstClash(shelves[s], n, now.people);
    }

    public int orders(int s, int n) {
        int fault = bowlsFault(s, n);
        return fault != 0 ? refuse(fault) : bowls.countOrders(NONE, NONE);
    }

    public int next(int s, int n) {
        int fault = bowlsFault(s, n);
        return fault != 0 ? refuse(fault) : bowls.bestTwo();
    }

    public int mayBe(int s, int n) {
        int fault = bowlsFault(s, n);
        return fault != 0 ? refuse(fault) : bowls.underNobody();
    }

    public int wrongBowls(int s, int n) {
        int fault = bowlsFault(s, n);
        if (fault != 0) {
            return refuse(fault);
        }
        int wrong = 0;
        for (int k = 0; k < n; k++) {
            int one = (int) shelves[s].at(2 * k);
            int other = (int) shelves[s].at(2 * k + 1);
            if (!now.isColder(one, other)) {
                wrong++;
            }
        }
        return wrong;
    }

    // ---- Games, chances, single questions

    public int byTurns(int n) {
        return isWithin(n, MOST_TURNS) ? asNumber(turns.canMakeSo(now, n)) : refuse(BAD);
    }

    public int odds(int t, int what) {
        if (!isWithin(t, MOST_ODDS) || !isWithin(what, 1)) {
            return refuse(BAD);
        }
        chances.spread(now, t);
        return what == 0 ? chances.likely() : chances.meanAir();
    }

    public int warmest() {
        Country then = foresight.begin(now);
        for (int air = MOST_AIR; air >= 0; air--) {
            then.air = air;
            if (then.standsSo()) {
                return air;
            }
        }
        return NONE;
    }

    public int brandyFor(int person) {
        if (!now.hasOne(person)) {
            return refuse(BAD);
        }
        Country then = foresight.begin(now);
        for (int brandy = 0; brandy <= MOST_BRANDY; brandy++) {
            then.brandy[person] = brandy;
            if (!then.standsSo()) {
                return brandy;
            }
        }
        return NONE;
    }

    public int fallFor(int t) {
        if (!isWithin(t, FAR)) {
            return refuse(BAD);
        }
        for (int fall = 0; fall <= MOST_FALL; fall++) {
            Country then = foresight.begin(now);
            then.fall = fall;
            if (then.firstSo(t) != NONE) {
                return fall;
            }
        }
        return NONE;
    }

    public int holdsOut(int person) {
        return now.hasOne(person) ? foresight.firstHeard(now, person) : refuse(BAD);
    }

    public int toughest(int what) {
        if (!isWithin(what, 1)) {
            return refuse(BAD);
        }
        return now.people == 0 ? refuse(STUCK) : foresight.bestHolder(now, what == 0);
    }

    public int shivering() {
        int cold = 0;
        for (int i = 0; i < now.people; i++) {
            cold += now.coldAs(now.kind[i], i);
        }
        return cold;
    }

    public int lead() {
        int one = now.ranked(0);
        int other = now.ranked(1);
        if (one == NONE || other == NONE) {
            return 0;
        }
        return now.coldAs(now.kind[one], one) - now.coldAs(now.kind[other], other);
    }

    public int quiet() {
        return foresight.feedAllQuiet(now);
    }

    public int second(int person) {
        if (!now.hasOne(person)) {
            return refuse(BAD);
        }
        Country then = foresight.begin(now);
        then.leaveOut(person);
        return then.coldestOne();
    }

    public int gap(int person) {
        if (!now.hasOne(person)) {
            return refuse(BAD);
        }
        Country then = foresight.begin(now);
        for (int fed = now.fed[person]; fed <= MOST_FED; fed++) {
            then.fed[person] = fed;
            if (then.coldestOne() != person) {
                return fed - now.fed[person];
            }
        }
        return NONE;
    }

    public int bites(int person) {
        if (!now.hasOne(person)) {
            return refuse(BAD);
        }
        Country then = foresight.begin(now);
        for (int air = MOST_AIR; air >= 0; air--) {
            then.air = air;
            if (then.isHeard(person)) {
                return air;
            }
        }
        return NONE;
    }

    public int all(int t) {
        return isWithin(t, FAR) ? foresight.leastForEach(now, t) : refuse(BAD);
    }

    public int ofKind(int kind) {
        return isKind(kind) ? now.countOf(kind) : refuse(BAD);
    }

    public int judge(int s, int n) {
        int fault = isWithin(n, MOST_ELEMENTS) ? rowFault(s, n) : BAD;
        return fault != 0 ? refuse(fault) : foresight.firstWrong(now, shelves[s], n);
    }

    // ---- IN TRUTH

    public int days(int n) {
        if (n < 1 || n > FAR) {
            return refuse(BAD);
        }
        for (int d = 0; d < n; d++) {
            now.passDay();
        }
        return now.winter;
    }

    public int drawn(int n) {
        if (n < 1 || n > FAR) {
            return refuse(BAD);
        }
        int so = 0;
        for (int d = 0; d < n; d++) {
            now.fall = now.drawBelow(4);
            now.feedMore(now.drawBelow(now.people + 1), 1);
            so += asNumber(now.standsSo());
            now.passDay();
        }
        return so;
    }

    public int seed(int v) {
        int was = now.seed;
        now.seed = v;
        return was;
    }

    public int image() {
        kept.load(now);
        isKept = true;
        return 1;
    }

    public int back() {
        if (!isKept) {
            return refuse(STUCK);
        }
        now.load(kept);
        for (int s = 0; s < SHELF_COUNT; s++) {
            if (shelves[s].holdsOne() && !now.hasOne(shelves[s].shown)) {
                shelves[s].holdOne(NONE);
            }
        }
        return 1;
    }

    public int status(int what) {
        switch (what) {
            case 0: return now.people;
            case 1: return now.air;
            case 2: return now.fall;
            case 3: return now.day;
            case 4: return now.coal;
            case 5: return now.winter;
            case 6: return now.allFed();
            case 7: return tape.size;
            case 8: return now.seed;
            case 9: return shelvesInUse();
            default: return isWithin(what - 12, REFUSAL_SORTS - 1) ? refusals[what - 12] : NONE;
        }
    }

    // ---- What the promises share

    private int refuse(int number) {
        int sort = BAD - number;
        if (isWithin(sort, REFUSAL_SORTS - 1)) {
            refusals[sort]++;
        }
        return number;
    }

    private static boolean isWithin(int v, int most) {
        return v >= 0 && v <= most;
    }

    private static boolean isShelf(int s) {
        return isWithin(s, SHELF_COUNT - 1);
    }

    private static boolean isKind(int kind) {
        return isWithin(kind, KIND_COUNT - 1);
    }

    private static int asNumber(boolean whether) {
        return whether ? 1 : 0;
    }

    private static boolean isOfOrUnder(int own, int kind) {
        int at = own;
        for (int level = 0; level < KIND_COUNT && isKind(at); level++) {
            if (at == kind) {
                return true;
            }
            at = KIND_ABOVE[at];
        }
        return false;
    }

    /** The refusal of a call that reads so many elements of the ROW in a SHELF; 0: none. */
    private int rowFault(int s, int wanted) {
        if (!isShelf(s)) {
            return BAD;
        }
        if (shelves[s].holdsOne()) {
            return OTHER;
        }
        if (shelves[s].isBare()) {
            return NOTHING;
        }
        return shelves[s].size < wanted ? BAD : 0;
    }

    private int twosFault(int s, int n) {
        return isWithin(n, MOST_TWOS) ? rowFault(s, 2 * n) : BAD;
    }

    /** As twosFault, and STUCK if they CLASH; if not, the BOWLS are told then. */
    private int bowlsFault(int s, int n) {
        int fault = twosFault(s, n);
        if (fault != 0) {
            return fault;
        }
        return bowls.firstClash(shelves[s], n, now.people) == NONE ? 0 : STUCK;
    }

    private static boolean areAirs(Shelf row, int n) {
        for (int k = 0; k < n; k++) {
            if (row.at(2 * k) < 0 || row.at(2 * k) > MOST_AIR) {
                return false;
            }
        }
        return true;
    }

    private static boolean areWhethers(Shelf row, int n) {
        for (int k = 0; k < n; k++) {
            if (row.at(2 * k + 1) != 0 && row.at(2 * k + 1) != 1) {
                return false;
            }
        }
        return true;
    }

    private int shelvesInUse() {
        int used = 0;
        for (int s = 0; s < SHELF_COUNT; s++) {
            if (!shelves[s].isBare()) {
                used++;
            }
        }
        return used;
    }

    /** THE COUNTRY and its PEOPLE, by rows: so it's kept, tried and brought back without new objects. */
    private static final class Country {
        private final int[] kind = new int[MOST_PEOPLE];
        private final int[] a = new int[MOST_PEOPLE];
        private final int[] pride = new int[MOST_PEOPLE];
        private final int[] brandy = new int[MOST_PEOPLE];
        private final int[] fed = new int[MOST_PEOPLE];
        private int people = 0;
        private int air = 25;
        private int fall = 1;
        private int day = 0;
        private int winter = NONE;
        private int coal = 2;
        private int seed = 1;
        /** How many LOVERS are there, one who is away not among them. */
        private int lovers = 0;
        /** The one who is taken as if he weren't there; the others keep their numbers. */
        private int away = NONE;

        void load(Country other) {
            System.arraycopy(other.kind, 0, kind, 0, MOST_PEOPLE);
            System.arraycopy(other.a, 0, a, 0, MOST_PEOPLE);
            System.arraycopy(other.pride, 0, pride, 0, MOST_PEOPLE);
            System.arraycopy(other.brandy, 0, brandy, 0, MOST_PEOPLE);
            System.arraycopy(other.fed, 0, fed, 0, MOST_PEOPLE);
            people = other.people;
            air = other.air;
            fall = other.fall;
            day = other.day;
            winter = other.winter;
            coal = other.coal;
            seed = other.seed;
            lovers = other.lovers;
            away = other.away;
        }

        boolean hasOne(int i) {
            return i >= 0 && i < people;
        }

        boolean isFull() {
            return people >= MOST_PEOPLE;
        }

        int settle(int itsKind, int itsA, int itsPride) {
            if (isFull()) {
                return NONE;
            }
            int i = people++;
            kind[i] = itsKind;
            a[i] = itsA;
            pride[i] = itsPride;
            brandy[i] = 0;
            fed[i] = 0;
            lovers += asNumber(itsKind == LOVER);
            return i;
        }

        /** AIR (what 0), FALL (1), DAY (2) or COAL (3) becomes v: what it was. */
        int change(int what, int v) {
            int was;
            switch (what) {
                case 0: was = air; air = v; break;
                case 1: was = fall; fall = v; break;
                case 2: was = day; day = v; break;
                default: was = coal; coal = v; break;
            }
            return was;
        }

        /** Only once, of a country that is tried. */
        void leaveOut(int i) {
            if (hasOne(i) && away == NONE) {
                away = i;
                lovers -= asNumber(kind[i] == LOVER);
            }
        }

        /** COLD of one, if he were of a KIND. */
        int coldAs(int taken, int i) {
            if (!hasOne(i)) {
                return 0;
            }
            int cold = Math.max(0, 40 - air - fed[i]);
            boolean hasOtherLover = lovers > (kind[i] == LOVER ? 1 : 0);
            switch (taken) {
                case PROUD: return Math.max(0, cold - a[i]);
                case OLD: return Math.max(0, Math.max(0, cold - a[i]) - 2 * brandy[i]);
                case THIN: return cold + a[i];
                case LOVER: return hasOtherLover ? Math.max(0, cold + a[i] - 10) : cold + a[i];
                case STRANGER: return cold + 5;
                default: return cold;
            }
        }

        /** LIMIT of one, if his PRIDE were another. */
        int limitBy(int itsPride, int i) {
            if (!hasOne(i)) {
                return 0;
            }
            switch (kind[i]) {
                case PROUD: return 10 + 2 * itsPride;
                case OLD: return 10 + 2 * itsPride + a[i];
                case THIN: return 5 + itsPride;
                case LOVER: return 35;
                case STRANGER: return 10;
                default: return 10 + itsPride;
            }
        }

        /** Whether one SPEAKS. */
        boolean isHeard(int i) {
            return hasOne(i) && coldAs(kind[i], i) > limitBy(pride[i], i);
        }

        int coldestOne() {
            int one = NONE;
            int most = NONE;
            for (int i = 0; i < people; i++) {
                int cold = i == away ? NONE : coldAs(kind[i], i);
                if (cold > most) {
                    most = cold;
                    one = i;
                }
            }
            return one;
        }

        /** Whether it IS SO. */
        boolean standsSo() {
            return isHeard(coldestOne());
        }

        boolean isColder(int i, int j) {
            return hasOne(i) && hasOne(j) && coldAs(kind[i], i) > coldAs(kind[j], j);
        }

        /** RANK; NONE: there are not so many. */
        int ranked(int place) {
            for (int i = 0; i < people; i++) {
                int before = 0;
                for (int j = 0; j < people; j++) {
                    if (isColder(j, i) || (j < i && !isColder(i, j))) {
                        before++;
                    }
                }
                if (before == place) {
                    return i;
                }
            }
            return NONE;
        }

        /** n chestnuts more for one; for nobody nothing is done. */
        void feedMore(int i, int n) {
            if (hasOne(i)) {
                fed[i] = Math.min(MOST_FED, fed[i] + n);
            }
        }

        /** What n DAYS do to AIR and FED. */
        void coolDown(int n) {
            air = Math.max(0, air - n * fall);
            for (int i = 0; i < people; i++) {
                fed[i] = Math.max(0, fed[i] - n);
            }
        }

        void passDay() {
            if (winter == NONE && standsSo()) {
                winter = day;
            }
            coolDown(1);
            day = Math.min(MOST_DAY, day + 1);
        }

        /** Behind how many DAYS, so many at most, it first IS SO; NONE. The country stands there then. */
        int firstSo(int most) {
            for (int d = 0; d <= most; d++) {
                if (standsSo()) {
                    return d;
                }
                coolDown(1);
            }
            return NONE;
        }

        int countOf(int wanted) {
            int many = 0;
            for (int i = 0; i < people; i++) {
                many += asNumber(kind[i] == wanted);
            }
            return many;
        }

        int allFed() {
            int sum = 0;
            for (int i = 0; i < people; i++) {
                sum += fed[i];
            }
            return sum;
        }

        /** A DRAW below n; 0, if there is nothing below it. */
        int drawBelow(int n) {
            seed = seed * 1103515245 + 12345;
            return n > 0 ? (seed >>> 16) % n : 0;
        }
    }

    /** What would come, tried on a country of its own, so that nothing is changed. */
    private static final class Foresight {
        private final Country trial = new Country();
        /** Whom leastFeed feeds. */
        private int whom = NONE;

        Country begin(Country now) {
            trial.load(now);
            return trial;
        }

        /** FEED till t: how much; NONE; whom stands in its field. */
        int leastFeed(Country now, int t) {
            whom = NONE;
            begin(now);
            if (trial.firstSo(t) == NONE) {
                return 0;
            }
            int least = MOST_FED + 1;
            for (int i = 0; i < now.people; i++) {
                for (int much = 1; much < least; much++) {
                    begin(now);
                    trial.feedMore(i, much);
                    if (trial.firstSo(t) == NONE) {
                        least = much;
                        whom = i;
                    }
                }
            }
            return whom == NONE ? NONE : least;
        }

        /** WARM for t. Sets come by their bits, so only a smaller one is better than one found. */
        int fewestWarmed(Country now, int t) {
            int best = NONE;
            int fewest = MOST_PEOPLE + 1;
            for (int warmed = 0; warmed < (1 << now.people); warmed++) {
                if (Integer.bitCount(warmed) >= fewest) {
                    continue;
                }
                begin(now);
                warmThese(warmed);
                if (trial.firstSo(t) == t) {
                    best = warmed;
                    fewest = Integer.bitCount(warmed);
                }
            }
            return best;
        }

        private void warmThese(int warmed) {
            for (int i = 0; i < trial.people; i++) {
                if ((warmed >> i & 1) == 1) {
                    trial.feedMore(i, 20);
                }
            }
        }

        /** OUT: the latest, or the soonest. */
        int bestAway(Country now, boolean isLatest) {
            int best = NONE;
            int bestDay = 0;
            for (int i = 0; i < now.people; i++) {
                begin(now);
                trial.leaveOut(i);
                int day = noneAsLast(trial.firstSo(FAR));
                if (best == NONE || (isLatest ? day > bestDay : day < bestDay)) {
                    best = i;
                    bestDay = day;
                }
            }
            return best;
        }

        private static int noneAsLast(int day) {
            return day == NONE ? FAR + 1 : day;
        }

        int firstHeard(Country now, int one) {
            begin(now);
            for (int d = 0; d <= FAR; d++) {
                if (trial.isHeard(one)) {
                    return d;
                }
                trial.coolDown(1);
            }
            return NONE;
        }

        /** Who holds out longest, or shortest. */
        int bestHolder(Country now, boolean isLongest) {
            int best = NONE;
            int bestDay = 0;
            for (int i = 0; i < now.people; i++) {
                int day = noneAsLast(firstHeard(now, i));
                if (best == NONE || (isLongest ? day > bestDay : day < bestDay)) {
                    best = i;
                    bestDay = day;
                }
            }
            return best;
        }

        int pridesBy(Country now, Shelf row, int n, int one) {
            int agreeing = 0;
            begin(now);
            for (int pride = 0; pride <= MOST_PRIDE; pride++) {
                if (agreesPride(row, n, one, pride)) {
                    agreeing |= 1 << pride;
                }
            }
            return agreeing;
        }

        private boolean agreesPride(Shelf row, int n, int one, int pride) {
            trial.pride[one] = pride;
            for (int k = 0; k < n; k++) {
                trial.air = (int) row.at(2 * k);
                if (asNumber(trial.isHeard(one)) != row.at(2 * k + 1)) {
                    return false;
                }
            }
            return true;
        }

        int kindsBy(Country now, Shelf row, int n, int one) {
            int agreeing = 0;
            begin(now);
            for (int kind = 0; kind < KIND_COUNT; kind++) {
                if (agreesKind(row, n, one, kind)) {
                    agreeing |= 1 << kind;
                }
            }
            return agreeing;
        }

        private boolean agreesKind(Shelf row, int n, int one, int kind) {
            for (int k = 0; k < n; k++) {
                trial.air = (int) row.at(2 * k);
                if (trial.coldAs(kind, one) != row.at(2 * k + 1)) {
                    return false;
                }
            }
            return true;
        }

        int feedAllQuiet(Country now) {
            int sum = 0;
            begin(now);
            for (int i = 0; i < now.people; i++) {
                while (trial.isHeard(i) && trial.fed[i] < MOST_FED) {
                    trial.fed[i]++;
                    sum++;
                }
                if (trial.isHeard(i)) {
                    return NONE;
                }
            }
            return sum;
        }

        int leastForEach(Country now, int t) {
            for (int much = 0; much <= MOST_FED; much++) {
                begin(now);
                for (int i = 0; i < now.people; i++) {
                    trial.feedMore(i, much);
                }
                if (trial.firstSo(t) == NONE) {
                    return much;
                }
            }
            return NONE;
        }

        /** WRONG of a told LOG. */
        int firstWrong(Country now, Shelf log, int n) {
            begin(now);
            for (int d = 0; d < n; d++) {
                if (log.at(d) != trial.coldestOne()) {
                    return d;
                }
                trial.coolDown(1);
            }
            return NONE;
        }
    }

    /**
     * ODDS. How often an AIR comes up is counted, not each way there: FED goes its own way whatever
     * FALL is, so ways that meet at an AIR go on alike.
     */
    private static final class Chances {
        private static final int FALLS = 4;
        private final Country trial = new Country();
        /** Ways to each AIR: all of them, and those on which it wasn't so yet. */
        private final int[] ways = new int[MOST_AIR + 1];
        private final int[] quietWays = new int[MOST_AIR + 1];
        private int wholeWays = 1;

        void spread(Country now, int t) {
            trial.load(now);
            Arrays.fill(ways, 0);
            Arrays.fill(quietWays, 0);
            wholeWays = 1;
            if (isWithin(now.air, MOST_AIR)) {
                ways[now.air] = 1;
                quietWays[now.air] = 1;
            }
            trial.fall = 0;
            dropSoWays();
            for (int d = 0; d < t; d++) {
                fallOnce(ways);
                fallOnce(quietWays);
                wholeWays *= FALLS;
                trial.coolDown(1);
                dropSoWays();
            }
        }

        /** From the coldest AIR on, as what comes to an AIR is from AIRS that aren't less. */
        private static void fallOnce(int[] counts) {
            for (int air = 0; air < counts.length; air++) {
                int many = counts[air];
                counts[air] = 0;
                for (int fall = 0; fall < FALLS; fall++) {
                    counts[Math.max(0, air - fall)] += many;
                }
            }
        }

        private void dropSoWays() {
            for (int air = 0; air <= MOST_AIR; air++) {
                trial.air = air;
                if (quietWays[air] != 0 && trial.standsSo()) {
                    quietWays[air] = 0;
                }
            }
        }

        int likely() {
            int quiet = 0;
            for (int air = 0; air <= MOST_AIR; air++) {
                quiet += quietWays[air];
            }
            return wholeWays < 1 ? 0 : (int) ((wholeWays - quiet) * 1000000L / wholeWays);
        }

        int meanAir() {
            long sum = 0;
            for (int air = 0; air <= MOST_AIR; air++) {
                sum += (long) air * ways[air];
            }
            return wholeWays < 1 ? 0 : (int) (sum * 1000L / wholeWays);
        }
    }

    /** TURNS. COLD of each is kept beside, as a turn changes that of one alone. */
    private static final class Turns {
        private final Country trial = new Country();
        private final int[] cold = new int[MOST_PEOPLE];

        boolean canMakeSo(Country now, int n) {
            trial.load(now);
            for (int i = 0; i < trial.people; i++) {
                cold[i] = trial.coldAs(trial.kind[i], i);
            }
            return comesSo(n, true);
        }

        /** Whether it IS SO in the end, both at their best; isFirst: who begins is on turn. */
        private boolean comesSo(int left, boolean isFirst) {
            if (left <= 0) {
                return endsSo();
            }
            if (comesSo(left - 1, !isFirst) == isFirst) {
                return isFirst;
            }
            for (int i = 0; i < trial.people; i++) {
                int was = trial.fed[i];
                if (was < MOST_FED && comesSoBy(i, was + 1, left, isFirst) == isFirst) {
                    return isFirst;
                }
                if (was > 0 && comesSoBy(i, was - 1, left, isFirst) == isFirst) {
                    return isFirst;
                }
            }
            return !isFirst;
        }

        private boolean comesSoBy(int i, int fed, int left, boolean isFirst) {
            int wasFed = trial.fed[i];
            int wasCold = cold[i];
            trial.fed[i] = fed;
            cold[i] = trial.coldAs(trial.kind[i], i);
            boolean so = comesSo(left - 1, !isFirst);
            trial.fed[i] = wasFed;
            cold[i] = wasCold;
            return so;
        }

        private boolean endsSo() {
            int one = NONE;
            for (int i = 0; i < trial.people; i++) {
                if (one == NONE || cold[i] > cold[one]) {
                    one = i;
                }
            }
            return one != NONE && cold[one] > trial.limitBy(trial.pride[one], one);
        }
    }

    /** BOWLS as told by a ROW of twos, and the ORDERS that agree with them. */
    private static final class Bowls {
        /** By one: those (bits) who are told less cold than he, by one step or more. */
        private final int[] below = new int[MOST_PEOPLE];
        /** By a set (bits): the ORDERS in which just these are the least cold. */
        private final int[] ways = new int[1 << MOST_PEOPLE];
        private int people = 0;

        /** CLASH; NONE: then all the twos are told here. */
        int firstClash(Shelf row, int n, int many) {
            people = Math.max(0, Math.min(MOST_PEOPLE, many));
            Arrays.fill(below, 0);
            for (int k = 0; k < n; k++) {
                if (!putAbove(row.at(2 * k), row.at(2 * k + 1))) {
                    return k;
                }
            }
            return NONE;
        }

        private boolean putAbove(long told, long lessTold) {
            if (told < 0 || told >= people || lessTold < 0 || lessTold >= people) {
                return false;
            }
            int one = (int) told;
            int other = (int) lessTold;
            if (one == other || isBelow(one, other)) {
                return false;
            }
            int under = below[other] | 1 << other;
            for (int i = 0; i < people; i++) {
                if (i == one || isBelow(one, i)) {
                    below[i] |= under;
                }
            }
            return true;
        }

        private boolean isBelow(int one, int other) {
            return (below[other] >> one & 1) == 1;
        }

        /** ORDERS that agree, and in which one is colder than another (both NONE: all). */
        int countOrders(int one, int other) {
            int sets = 1 << people;
            Arrays.fill(ways, 0);
            ways[0] = 1;
            for (int set = 0; set < sets; set++) {
                for (int i = 0; i < people && ways[set] != 0; i++) {
                    int under = i == one && other >= 0 ? below[i] | 1 << other : below[i];
                    if ((set >> i & 1) == 0 && (under & ~set) == 0) {
                        ways[set | 1 << i] += ways[set];
                    }
                }
            }
            return ways[sets - 1];
        }

        /** NEXT. */
        int bestTwo() {
            int whole = countOrders(NONE, NONE);
            int best = NONE;
            int fewest = 0;
            for (int i = 0; i < people; i++) {
                for (int j = i + 1; j < people; j++) {
                    if (isBelow(i, j) || isBelow(j, i)) {
                        continue;
                    }
                    int part = countOrders(i, j);
                    int left = Math.max(part, whole - part);
                    if (best == NONE || left < fewest) {
                        best = 10 * i + j;
                        fewest = left;
                    }
                }
            }
            return best;
        }

        /** Those (bits) than whom nobody is told colder. */
        int underNobody() {
            int under = 0;
            for (int i = 0; i < people; i++) {
                under |= below[i];
            }
            return (1 << people) - 1 & ~under;
        }
    }

    /** THE TAPE, and how a COUNTRY is read from it. */
    private static final class Tape {
        private static final int ENDED = 0;
        private static final int WORD = 1;
        private static final int NUMBER = 2;
        private static final int SIGN = 3;
        private static final int NO_TOKEN = 4;
        private static final int MOST_DIGITS = 3;

        private final int[] bytes = new int[MOST_BYTES];
        private int size = 0;
        /** The TOKEN at hand: what it is, its first byte's place (THE TAPE's size: ENDED), the one behind. */
        private int token = ENDED;
        private int start = 0;
        private int end = 0;

        boolean isFull() {
            return size >= MOST_BYTES;
        }

        int append(int letter) {
            if (!isFull()) {
                bytes[size++] = letter;
            }
            return size;
        }

        int clear() {
            int was = size;
            size = 0;
            return was;
        }

        /** How many STATEMENTS come to the draft; -20 less the FAULT: then the draft is to be left. */
        int readInto(Country draft) {
            end = 0;
            for (int read = 1; read <= MOST_BYTES; read++) {
                step();
                if (!readStatement(draft)) {
                    break;
                }
                step();
                if (token == ENDED) {
                    return read;
                }
                if (token != SIGN) {
                    break;
                }
            }
            return FAULT_BASE - start;
        }

        /** The next TOKEN comes to hand. */
        private void step() {
            while (end < size && bytes[end] == ' ') {
                end++;
            }
            start = end;
            if (start >= size) {
                token = ENDED;
            } else if (takesAllOf('a', 'z')) {
                token = WORD;
            } else if (takesAllOf('0', '9')) {
                token = NUMBER;
            } else {
                token = bytes[start] == ';' ? SIGN : NO_TOKEN;
                end++;
            }
        }

        /** The end goes behind all bytes of these that come; whether there was one. */
        private boolean takesAllOf(char first, char last) {
            while (end < size && bytes[end] >= first && bytes[end] <= last) {
                end++;
            }
            return end > start;
        }

        /** Whether a STATEMENT stands there, which comes to the draft; if not, the FAULT is at start. */
        private boolean readStatement(Country draft) {
            if (isWord("person")) {
                return !draft.isFull() && readPerson(draft);
            }
            if (isWord("feed")) {
                return readPortion(draft.fed, draft.people, MOST_FED);
            }
            if (isWord("brandy")) {
                return readPortion(draft.brandy, draft.people, MOST_BRANDY);
            }
            int what = isWord("air") ? 0 : isWord("fall") ? 1 : isWord("day") ? 2 : isWord("coal") ? 3 : NONE;
            int v = what == NONE ? NONE : readNumber(MOST_TOLD[what]);
            if (v != NONE) {
                draft.change(what, v);
            }
            return v != NONE;
        }

        private boolean isWord(String word) {
            if (token != WORD || end - start != word.length()) {
                return false;
            }
            for (int i = 0; i < word.length(); i++) {
                if (bytes[start + i] != word.charAt(i)) {
                    return false;
                }
            }
            return true;
        }

        private boolean readPerson(Country draft) {
            int kind = readNumber(KIND_COUNT - 1);
            int a = kind == NONE ? NONE : readNumber(MOST_A);
            int pride = a == NONE ? NONE : readNumber(MOST_PRIDE);
            return pride != NONE && draft.settle(kind, a, pride) != NONE;
        }

        private boolean readPortion(int[] portions, int people, int most) {
            int one = readNumber(people - 1);
            int v = one == NONE ? NONE : readNumber(most);
            if (v == NONE || one >= portions.length) {
                return false;
            }
            portions[one] = v;
            return true;
        }

        /** The NUMBER that comes; NONE: something else, or one that may not be. */
        private int readNumber(int most) {
            step();
            if (token != NUMBER || end - start > MOST_DIGITS) {
                return NONE;
            }
            int v = 0;
            for (int i = start; i < end; i++) {
                v = 10 * v + bytes[i] - '0';
            }
            return v <= most ? v : NONE;
        }
    }

    /** A SHELF: NOTHING, a ROW or one of the PEOPLE. */
    private static final class Shelf {
        private final long[] elements = new long[MOST_ELEMENTS];
        /** NONE: no ROW. */
        private int sort = NONE;
        private int size = 0;
        /** NONE: none of the PEOPLE. */
        private int shown = NONE;

        boolean holdsRow() {
            return sort != NONE;
        }

        boolean holdsOne() {
            return shown != NONE;
        }

        boolean isBare() {
            return !holdsRow() && !holdsOne();
        }

        void holdRow(int itsSort, int n) {
            Arrays.fill(elements, 0L);
            sort = itsSort;
            size = Math.max(0, Math.min(MOST_ELEMENTS, n));
            shown = NONE;
        }

        void holdOne(int one) {
            sort = NONE;
            size = 0;
            shown = one;
        }

        boolean hasPlace(int i) {
            return i >= 0 && i < size;
        }

        /** Written without a sum, which could wrap. */
        boolean hasStretch(int i, int n) {
            return n >= 0 && n <= size && i >= 0 && i <= size - n;
        }

        long at(int i) {
            return hasPlace(i) ? elements[i] : 0L;
        }

        void put(int i, long v) {
            if (hasPlace(i)) {
                elements[i] = fit(v);
            }
        }

        private long fit(long v) {
            switch (sort) {
                case 0: return (byte) v;
                case 1: return (short) v;
                case 2: return (int) v;
                case 4: return v != 0 ? 1L : 0L;
                default: return v;
            }
        }
    }
}
