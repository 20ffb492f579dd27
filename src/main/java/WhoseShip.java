/**
 * Ships whose parts are replaced one by one, a yard that keeps the old ones,
 * and the laws by which a ship is the one that it was, another one, or none.
 *
 * Every row is made with the object and used again, so that no call makes anything.
 */
public final class WhoseShip {
    public static final int BAD = -1, STATE = -2, FULL = -3, NONE = -9;
    public static final int NO = -1000000;

    private static final int FIRST_PLACES = 3, LEAST_PLACES = 2, MOST_PLACES = 6;
    private static final int FIRST_WEIGHT = 1, MOST_WEIGHT = 9;
    private static final int FIRST_LIFE = 9, MOST_LIFE = 30;
    private static final int MOST_OWNER = 9, BUILT_OWNER = 9;
    private static final int TOLD_SHIPS = 4, MOST_SHIPS = 6;
    private static final int MOST_SPARES = 6, MOST_SPARE_AGE = 30, MOST_PARTS = 48;
    private static final int SHIP_MAKES = 4, NEW_MAKE = 9, MAKE_NUMBERS = 10;
    private static final int IN_YARD = 8, NOWHERE = 9;
    private static final int NO_PART = -5;
    private static final int MOST_LETTERS = 200, LAST_LETTER = 255;
    private static final int LAST_YEAR = 99, FARTHEST_YEAR = 40;
    private static final int MOST_UNDONE = 10, MOST_SEEN = 6, IMAGES = 2;
    private static final int LAWS = 5;
    private static final int BY_KEEL = 0, BY_MOST = 1, BY_MORE = 2, BY_OLDEST = 3, BY_HALF = 4;

    private final Plan plan = new Plan();
    private final Fleet fleet = new Fleet();
    private final Hull hull = new Hull(plan, fleet);
    private final Change change = new Change(plan, fleet, hull);
    private final Past past = new Past();
    private final Kinds kinds = new Kinds(plan, fleet);
    private final Fleet[] images = new Fleet[IMAGES];
    private final boolean[] kept = new boolean[IMAGES];
    private final int[] letters = new int[MOST_LETTERS];
    private final Reader reader = new Reader(letters);
    private final int[] seenPlace = new int[MOST_SEEN];
    private final int[] seenMake = new int[MOST_SEEN];
    private int typed = 0;
    private int seen = 0;

    public WhoseShip() {
        for (int i = 0; i < IMAGES; i++) {
            images[i] = new Fleet();
        }
    }

    // ---- the port

    public int type(int letter) {
        if (letter < 0 || letter > LAST_LETTER) {
            return BAD;
        }
        if (typed >= MOST_LETTERS) {
            return FULL;
        }
        letters[typed] = letter;
        typed++;
        return typed;
    }

    public int clear() {
        int had = typed;
        typed = 0;
        return had;
    }

    public int port() {
        int fault = reader.readAll(typed);
        if (fault >= 0) {
            return -10 - fault;
        }
        reader.tellPlan(plan);
        reader.tellFleet(fleet);
        past.forgetAll();
        for (int i = 0; i < IMAGES; i++) {
            kept[i] = false;
        }
        seen = 0;
        typed = 0;
        return reader.items;
    }

    public int place(int k, int what) {
        if (!isPlace(k)) {
            return BAD;
        }
        switch (what) {
            case 0: return plan.weight[k];
            case 1: return plan.life[k];
            case 2: return fleet.lyingOf(k);
            default: return BAD;
        }
    }

    public int part(int p, int what) {
        if (!isPart(p)) {
            return BAD;
        }
        switch (what) {
            case 0: return fleet.place[p];
            case 1: return fleet.make[p];
            case 2: return fleet.age[p];
            case 3: return fleet.where[p];
            default: return BAD;
        }
    }

    public int inPlace(int s, int k) {
        if (!isShip(s) || !isPlace(k)) {
            return BAD;
        }
        return fleet.partAt(s, k);
    }

    public int ship(int s, int what) {
        if (!isShip(s)) {
            return BAD;
        }
        switch (what) {
            case 0: return fleet.owner[s];
            case 1: return rottenPlaces(s);
            default: return BAD;
        }
    }

    public int is(int s, int law) {
        if (!isShip(s) || !isLaw(law)) {
            return BAD;
        }
        return whoseNow(s, law);
    }

    public int now(int what) {
        switch (what) {
            case 0: return fleet.year;
            case 1: return fleet.lying();
            case 2: return rottenShips();
            case 3: return fairLaws();
            case 4: return past.known;
            default: return BAD;
        }
    }

    // ---- what is done

    public int replace(int s, int p) {
        if (!isShip(s) || !isPart(p)) {
            return BAD;
        }
        if (fleet.where[p] != IN_YARD) {
            return STATE;
        }
        past.remember(fleet);
        int old = fleet.partAt(s, fleet.place[p]);
        fleet.where[old] = IN_YARD;
        fleet.putIn(s, p);
        return old;
    }

    public int fresh(int k) {
        if (!isPlace(k)) {
            return BAD;
        }
        if (fleet.parts >= MOST_PARTS) {
            return FULL;
        }
        past.remember(fleet);
        return fleet.addPart(k, NEW_MAKE, 0);
    }

    public int build() {
        for (int k = 0; k < plan.places; k++) {
            if (fleet.firstLying(k) < 0) {
                return STATE;
            }
        }
        if (fleet.ships >= MOST_SHIPS) {
            return FULL;
        }
        past.remember(fleet);
        int s = fleet.addShip(BUILT_OWNER);
        for (int k = 0; k < plan.places; k++) {
            fleet.putIn(s, fleet.firstLying(k));
        }
        return s;
    }

    public int year() {
        if (fleet.year >= LAST_YEAR) {
            return STATE;
        }
        past.remember(fleet);
        fleet.year++;
        int lost = 0;
        for (int p = 0; p < fleet.parts; p++) {
            fleet.age[p]++;
            if (fleet.where[p] == IN_YARD && fleet.age[p] >= plan.life[fleet.place[p]]) {
                fleet.where[p] = NOWHERE;
                lost++;
            }
        }
        return lost;
    }

    public int undo() {
        if (past.known == 0) {
            return STATE;
        }
        past.restore(fleet);
        return past.known;
    }

    // ---- laws

    public int twins(int law) {
        if (!isLaw(law)) {
            return BAD;
        }
        return firstTwins(law);
    }

    public int becomes(int s, int law, int make, int k) {
        if (!isShip(s) || !isLaw(law) || make < 0 || make >= SHIP_MAKES) {
            return BAD;
        }
        if (k != -1 && !isPlace(k)) {
            return BAD;
        }
        change.seek(s, law, make);
        if (!change.found) {
            return NONE;
        }
        return k == -1 ? change.fewest : change.best[k];
    }

    public int stays(int s, int law) {
        if (!isShip(s) || !isLaw(law)) {
            return BAD;
        }
        int first = whoseNow(s, law);
        if (first == NONE) {
            return NONE;
        }
        for (int y = 1; y <= FARTHEST_YEAR; y++) {
            hull.ageAndRenew();
            if (hull.whose(law) != first) {
                return y;
            }
        }
        return NONE;
    }

    public int share(int s, int make, int what) {
        if (!isShip(s) || !isMake(make) || !isFractionSide(what)) {
            return BAD;
        }
        hull.load(s);
        hull.weigh();
        return (int) inLeastTerms(hull.weighs[make], plan.allWeights(), what);
    }

    public int decides(int s, int law) {
        if (!isShip(s) || !isLaw(law)) {
            return BAD;
        }
        int first = whoseNow(s, law);
        int bits = 0;
        for (int k = 0; k < plan.places; k++) {
            hull.put(k, NEW_MAKE, 0);
            if (hull.whose(law) != first) {
                bits |= 1 << k;
            }
            hull.putPart(k, fleet.partAt(s, k));
        }
        return bits;
    }

    public long thief(int s, int law, int what) {
        if (!isShip(s) || !isLaw(law) || !isFractionSide(what)) {
            return BAD;
        }
        int first = whoseNow(s, law);
        long upper = 0;
        long lower = 1;
        for (int k = 0; k < plan.places; k++) {
            int lie = Math.max(1, fleet.lyingOf(k));
            upper = upper * lie + staying(s, k, law, first) * lower;
            lower = lower * lie;
        }
        return inLeastTerms(upper, lower * plan.places, what);
    }

    // ---- what was seen, repairs

    public int saw(int k, int make) {
        if (!isPlace(k) || !isMake(make)) {
            return BAD;
        }
        if (seen >= MOST_SEEN) {
            return FULL;
        }
        seenPlace[seen] = k;
        seenMake[seen] = make;
        seen++;
        return seen;
    }

    public int forget() {
        int had = seen;
        seen = 0;
        return had;
    }

    public int mayBe() {
        int bits = 0;
        for (int s = 0; s < fleet.ships; s++) {
            if (isAsSeen(s)) {
                bits |= 1 << s;
            }
        }
        return bits;
    }

    public int leastSeen(int s) {
        if (!isShip(s)) {
            return BAD;
        }
        int least = NONE;
        for (int bits = 0; bits < 1 << plan.places; bits++) {
            boolean fewer = least == NONE || Integer.bitCount(bits) < Integer.bitCount(least);
            if (fewer && tellsFromAll(s, bits)) {
                least = bits;
            }
        }
        return least;
    }

    public int repairs(int s, int n, int what) {
        if (!isShip(s) || n < 0 || n > FARTHEST_YEAR || what < 0 || what > 1) {
            return BAD;
        }
        hull.load(s);
        int all = 0;
        int most = 0;
        int mostYear = NONE;
        for (int y = 1; y <= n; y++) {
            int renewed = hull.ageAndRenew();
            all += renewed;
            if (renewed > most) {
                most = renewed;
                mostYear = y;
            }
        }
        return what == 0 ? all : mostYear;
    }

    // ---- kinds, images

    public int rate(int kind, int p) {
        if (!isPart(p) || fleet.where[p] == NOWHERE) {
            return NO;
        }
        return kinds.rateAs(kind, p);
    }

    public int keep(int image) {
        if (image < 0 || image >= IMAGES) {
            return BAD;
        }
        images[image].copyFrom(fleet);
        kept[image] = true;
        return fleet.year;
    }

    public int back(int image) {
        if (image < 0 || image >= IMAGES) {
            return BAD;
        }
        if (!kept[image]) {
            return STATE;
        }
        fleet.copyFrom(images[image]);
        past.forgetAll();
        return fleet.year;
    }

    public int count(int what) {
        switch (what) {
            case 0: return plan.places;
            case 1: return fleet.ships;
            case 2: return fleet.parts;
            case 3: return seen;
            case 4: return typed;
            default: return BAD;
        }
    }

    public long trace() {
        return kinds.trace;
    }

    // ---- what the calls ask

    private boolean isPlace(int k) {
        return k >= 0 && k < plan.places;
    }

    private boolean isShip(int s) {
        return s >= 0 && s < fleet.ships;
    }

    private boolean isPart(int p) {
        return p >= 0 && p < fleet.parts;
    }

    private static boolean isLaw(int law) {
        return law >= 0 && law < LAWS;
    }

    private static boolean isMake(int make) {
        return make >= 0 && make < SHIP_MAKES || make == NEW_MAKE;
    }

    private static boolean isFractionSide(int what) {
        return what == 0 || what == 1;
    }

    /** Leaves the hull loaded with the ship, for those who go on to change it. */
    private int whoseNow(int s, int law) {
        hull.load(s);
        return hull.whose(law);
    }

    private int rottenPlaces(int s) {
        int bits = 0;
        for (int k = 0; k < plan.places; k++) {
            if (fleet.age[fleet.partAt(s, k)] >= plan.life[k]) {
                bits |= 1 << k;
            }
        }
        return bits;
    }

    private int rottenShips() {
        int bits = 0;
        for (int s = 0; s < fleet.ships; s++) {
            if (rottenPlaces(s) != 0) {
                bits |= 1 << s;
            }
        }
        return bits;
    }

    private int fairLaws() {
        int bits = 0;
        for (int law = 0; law < LAWS; law++) {
            if (firstTwins(law) == NONE) {
                bits |= 1 << law;
            }
        }
        return bits;
    }

    private int firstTwins(int law) {
        for (int s = 0; s < fleet.ships; s++) {
            int one = whoseNow(s, law);
            for (int t = s + 1; one != NONE && t < fleet.ships; t++) {
                if (whoseNow(t, law) == one) {
                    return 10 * s + t;
                }
            }
        }
        return NONE;
    }

    /** By how many thefts in this place the ship stays; one if there is nothing to put there. */
    private int staying(int s, int k, int law, int first) {
        int same = 0;
        int tried = 0;
        for (int p = 0; p < fleet.parts; p++) {
            if (fleet.liesFor(p, k)) {
                tried++;
                hull.putPart(k, p);
                if (hull.whose(law) == first) {
                    same++;
                }
            }
        }
        hull.putPart(k, fleet.partAt(s, k));
        return tried == 0 ? 1 : same;
    }

    private boolean isAsSeen(int s) {
        for (int i = 0; i < seen; i++) {
            if (fleet.make[fleet.partAt(s, seenPlace[i])] != seenMake[i]) {
                return false;
            }
        }
        return true;
    }

    private boolean tellsFromAll(int s, int bits) {
        for (int t = 0; t < fleet.ships; t++) {
            if (t != s && !differIn(s, t, bits)) {
                return false;
            }
        }
        return true;
    }

    private boolean differIn(int s, int t, int bits) {
        for (int k = 0; k < plan.places; k++) {
            boolean asked = (bits >> k & 1) == 1;
            if (asked && fleet.make[fleet.partAt(s, k)] != fleet.make[fleet.partAt(t, k)]) {
                return true;
            }
        }
        return false;
    }

    private static long inLeastTerms(long upper, long lower, int what) {
        long divisor = Math.max(1, commonDivisor(upper, lower));
        return what == 0 ? upper / divisor : lower / divisor;
    }

    private static long commonDivisor(long a, long b) {
        long greater = a;
        long lesser = b;
        // A long falls to 0 within some ninety steps of Euclid's.
        for (int step = 0; step < 100 && lesser != 0; step++) {
            long rest = greater % lesser;
            greater = lesser;
            lesser = rest;
        }
        return greater;
    }

    /** What nothing but a new text changes. */
    private static final class Plan {
        private int places;
        private final int[] weight = new int[MOST_PLACES];
        private final int[] life = new int[MOST_PLACES];

        private Plan() {
            startAnew();
        }

        private void startAnew() {
            places = FIRST_PLACES;
            for (int k = 0; k < MOST_PLACES; k++) {
                weight[k] = FIRST_WEIGHT;
                life[k] = FIRST_LIFE;
            }
        }

        private void copyFrom(Plan other) {
            places = other.places;
            System.arraycopy(other.weight, 0, weight, 0, MOST_PLACES);
            System.arraycopy(other.life, 0, life, 0, MOST_PLACES);
        }

        private int allWeights() {
            int all = 0;
            for (int k = 0; k < places; k++) {
                all += weight[k];
            }
            return all;
        }
    }

    /** What is NOW: all that an image keeps and that an undone call gives back. */
    private static final class Fleet {
        private int year = 0;
        private int parts = 0;
        private int ships = 0;
        private final int[] place = new int[MOST_PARTS];
        private final int[] make = new int[MOST_PARTS];
        private final int[] age = new int[MOST_PARTS];
        private final int[] where = new int[MOST_PARTS];
        private final int[] owner = new int[MOST_SHIPS];
        private final int[] held = new int[MOST_SHIPS * MOST_PLACES];

        private void startAnew() {
            year = 0;
            parts = 0;
            ships = 0;
        }

        private void copyFrom(Fleet other) {
            year = other.year;
            parts = other.parts;
            ships = other.ships;
            System.arraycopy(other.place, 0, place, 0, parts);
            System.arraycopy(other.make, 0, make, 0, parts);
            System.arraycopy(other.age, 0, age, 0, parts);
            System.arraycopy(other.where, 0, where, 0, parts);
            System.arraycopy(other.owner, 0, owner, 0, ships);
            System.arraycopy(other.held, 0, held, 0, ships * MOST_PLACES);
        }

        /** The caller has looked that there is room. */
        private int addPart(int itsPlace, int itsMake, int itsAge) {
            int p = parts;
            place[p] = itsPlace;
            make[p] = itsMake;
            age[p] = itsAge;
            where[p] = IN_YARD;
            parts++;
            return p;
        }

        /** The caller has looked that there is room, and puts a part in each place. */
        private int addShip(int itsOwner) {
            int s = ships;
            owner[s] = itsOwner;
            ships++;
            return s;
        }

        private void putIn(int s, int p) {
            held[s * MOST_PLACES + place[p]] = p;
            where[p] = s;
        }

        private int partAt(int s, int k) {
            return held[s * MOST_PLACES + k];
        }

        private boolean liesFor(int p, int k) {
            return where[p] == IN_YARD && place[p] == k;
        }

        private int firstLying(int k) {
            for (int p = 0; p < parts; p++) {
                if (liesFor(p, k)) {
                    return p;
                }
            }
            return -1;
        }

        private int lyingOf(int k) {
            int lie = 0;
            for (int p = 0; p < parts; p++) {
                if (liesFor(p, k)) {
                    lie++;
                }
            }
            return lie;
        }

        private int lying() {
            int lie = 0;
            for (int p = 0; p < parts; p++) {
                if (where[p] == IN_YARD) {
                    lie++;
                }
            }
            return lie;
        }
    }

    /** A ship as it might be: it can be changed and judged while the fleet stays as it is. */
    private static final class Hull {
        private final Plan plan;
        private final Fleet fleet;
        private final int[] make = new int[MOST_PLACES];
        private final int[] age = new int[MOST_PLACES];
        private final int[] weighs = new int[MAKE_NUMBERS];

        private Hull(Plan plan, Fleet fleet) {
            this.plan = plan;
            this.fleet = fleet;
        }

        private void load(int s) {
            for (int k = 0; k < plan.places; k++) {
                putPart(k, fleet.partAt(s, k));
            }
        }

        private void putPart(int k, int p) {
            put(k, fleet.make[p], fleet.age[p]);
        }

        private void put(int k, int itsMake, int itsAge) {
            make[k] = itsMake;
            age[k] = itsAge;
        }

        /** A year goes by and all that is rotten then is made new: how many parts. */
        private int ageAndRenew() {
            int renewed = 0;
            for (int k = 0; k < plan.places; k++) {
                age[k]++;
                if (age[k] >= plan.life[k]) {
                    put(k, NEW_MAKE, 0);
                    renewed++;
                }
            }
            return renewed;
        }

        private void weigh() {
            for (int m = 0; m < MAKE_NUMBERS; m++) {
                weighs[m] = 0;
            }
            for (int k = 0; k < plan.places; k++) {
                weighs[make[k]] += plan.weight[k];
            }
        }

        private int whose(int law) {
            switch (law) {
                case BY_KEEL: return shipOf(make[0]);
                case BY_MOST: return byMost();
                case BY_MORE: return byMore();
                case BY_OLDEST: return shipOf(make[oldest()]);
                case BY_HALF: return byHalf();
                default: return NONE;
            }
        }

        private static int shipOf(int itsMake) {
            return itsMake == NEW_MAKE ? NONE : itsMake;
        }

        private int byMost() {
            weigh();
            int all = plan.allWeights();
            for (int m = 0; m < SHIP_MAKES; m++) {
                if (2 * weighs[m] > all) {
                    return m;
                }
            }
            return NONE;
        }

        private int byMore() {
            weigh();
            int heaviest = 0;
            boolean alone = true;
            for (int m = 1; m < MAKE_NUMBERS; m++) {
                if (weighs[m] > weighs[heaviest]) {
                    heaviest = m;
                    alone = true;
                } else if (weighs[m] == weighs[heaviest]) {
                    alone = false;
                }
            }
            return alone ? shipOf(heaviest) : NONE;
        }

        private int oldest() {
            int found = 0;
            for (int k = 1; k < plan.places; k++) {
                if (age[k] > age[found]) {
                    found = k;
                }
            }
            return found;
        }

        private int byHalf() {
            for (int m = 0; m < SHIP_MAKES; m++) {
                int many = 0;
                for (int k = 0; k < plan.places; k++) {
                    if (make[k] == m) {
                        many++;
                    }
                }
                if (2 * many >= plan.places) {
                    return m;
                }
            }
            return NONE;
        }
    }

    /** Seeks the fewest replacements by which a ship becomes another's, and of those the first row. */
    private static final class Change {
        private final Plan plan;
        private final Fleet fleet;
        private final Hull hull;
        private final int[] row = new int[MOST_PLACES];
        private final int[] best = new int[MOST_PLACES];
        private boolean found = false;
        private int fewest = 0;
        private int ship = 0;
        private int law = 0;
        private int goal = 0;

        private Change(Plan plan, Fleet fleet, Hull hull) {
            this.plan = plan;
            this.fleet = fleet;
            this.hull = hull;
        }

        private void seek(int itsShip, int itsLaw, int itsGoal) {
            ship = itsShip;
            law = itsLaw;
            goal = itsGoal;
            found = false;
            fewest = plan.places + 1;
            if (law == BY_OLDEST) {
                seekOldest();
            } else {
                hull.load(ship);
                choose(0, 0);
            }
        }

        /**
         * Rows come in their order, so the first with as few as any is kept. For these laws
         * parts of one make are alike: the first of each make stands for the others.
         */
        private void choose(int k, int replaced) {
            if (replaced >= fewest) {
                return;
            }
            if (k >= plan.places) {
                if (hull.whose(law) == goal) {
                    accept(replaced);
                }
                return;
            }
            int own = fleet.partAt(ship, k);
            row[k] = NO_PART;
            choose(k + 1, replaced);
            int tried = 1 << fleet.make[own];
            for (int p = 0; p < fleet.parts; p++) {
                int bit = 1 << fleet.make[p];
                if (fleet.liesFor(p, k) && (tried & bit) == 0) {
                    tried |= bit;
                    row[k] = p;
                    hull.putPart(k, p);
                    choose(k + 1, replaced + 1);
                }
            }
            hull.putPart(k, own);
        }

        private void accept(int replaced) {
            found = true;
            fewest = replaced;
            System.arraycopy(row, 0, best, 0, plan.places);
        }

        /**
         * Ages make parts of one make unlike, and all rows would be too many. But which part is
         * to be the oldest settles where the others must yield, so each such part is tried.
         */
        private void seekOldest() {
            for (int k = 0; k < plan.places; k++) {
                int own = fleet.partAt(ship, k);
                for (int p = 0; p < fleet.parts; p++) {
                    boolean may = p == own || fleet.liesFor(p, k);
                    if (may && fleet.make[p] == goal) {
                        tryOldest(k, p, p == own ? NO_PART : p);
                    }
                }
            }
        }

        private void tryOldest(int k, int oldest, int choice) {
            int replaced = 0;
            for (int j = 0; j < plan.places; j++) {
                int bound = j < k ? fleet.age[oldest] - 1 : fleet.age[oldest];
                row[j] = j == k ? choice : noOlder(j, bound);
                if (row[j] == NONE) {
                    return;
                }
                if (row[j] != NO_PART) {
                    replaced++;
                }
            }
            if (replaced < fewest || replaced == fewest && comesFirst()) {
                accept(replaced);
            }
        }

        /** What to put in a place so that its part is no older than the bound; NONE if nothing is. */
        private int noOlder(int k, int bound) {
            if (fleet.age[fleet.partAt(ship, k)] <= bound) {
                return NO_PART;
            }
            for (int p = 0; p < fleet.parts; p++) {
                if (fleet.liesFor(p, k) && fleet.age[p] <= bound) {
                    return p;
                }
            }
            return NONE;
        }

        /** NO_PART is below every number, as the order of rows wants it. */
        private boolean comesFirst() {
            for (int k = 0; k < plan.places; k++) {
                if (row[k] != best[k]) {
                    return row[k] < best[k];
                }
            }
            return false;
        }
    }

    /** The fleet as it was ahead of each of the latest calls; the oldest gives way to the newest. */
    private static final class Past {
        private final Fleet[] before = new Fleet[MOST_UNDONE];
        private int next = 0;
        private int known = 0;

        private Past() {
            for (int i = 0; i < MOST_UNDONE; i++) {
                before[i] = new Fleet();
            }
        }

        private void remember(Fleet fleet) {
            before[next].copyFrom(fleet);
            next = (next + 1) % MOST_UNDONE;
            known = Math.min(MOST_UNDONE, known + 1);
        }

        /** The caller has looked that something is known. */
        private void restore(Fleet fleet) {
            next = (next + MOST_UNDONE - 1) % MOST_UNDONE;
            known--;
            fleet.copyFrom(before[next]);
        }

        private void forgetAll() {
            known = 0;
        }
    }

    /** Each kind asks the one above it once, and leaves its mark in the trace. */
    private static final class Kinds {
        private final Plan plan;
        private final Fleet fleet;
        private long trace = 0;

        private Kinds(Plan plan, Fleet fleet) {
            this.plan = plan;
            this.fleet = fleet;
        }

        private int rateAs(int kind, int p) {
            switch (kind) {
                case 0: return asPart(p);
                case 1: return asKeel(p);
                case 2: return asBorrowed(p);
                case 3: return asMast(p);
                case 4: return asShared(p);
                case 5: return asForged(p);
                default: return NO;
            }
        }

        private int asPart(int p) {
            trace += 1;
            return fleet.age[p];
        }

        private int asKeel(int p) {
            trace += 10;
            return asPart(p) + plan.weight[fleet.place[p]];
        }

        private int asBorrowed(int p) {
            trace += 100;
            return asPart(p) - plan.life[fleet.place[p]];
        }

        private int asMast(int p) {
            trace += 1000;
            return 2 * asKeel(p);
        }

        private int asShared(int p) {
            trace += 10000;
            return asBorrowed(p) + fleet.make[p];
        }

        private int asForged(int p) {
            trace += 100000;
            return asPart(p) + fleet.lying();
        }
    }

    /** Reads a text apart from all that stands, since a fault must leave that as it is. */
    private static final class Reader {
        // Tokens that are no letter of the text; every other token is its letter.
        private static final int END = -1, NUMBER = -2, WRONG = -3;
        private static final int NO_FAULT = -1;
        private static final int MOST_NUMBER = 99;

        private final int[] text;
        private final Plan plan = new Plan();
        private final int[] owner = new int[TOLD_SHIPS];
        private final int[] sparePlace = new int[MOST_SPARES];
        private final int[] spareMake = new int[MOST_SPARES];
        private final int[] spareAge = new int[MOST_SPARES];
        private int length = 0;
        private int ships = 0;
        private int spares = 0;
        private int items = 0;
        private int fault = NO_FAULT;
        private int at = 0;
        private int token = END;
        private int tokenAt = 0;
        private int value = 0;

        private Reader(int[] text) {
            this.text = text;
        }

        /** The fault, below 0 if there is none. */
        private int readAll(int itsLength) {
            startAnew(itsLength);
            // An item takes letters, so there are never more items than letters.
            for (int left = length; left > 0 && fault == NO_FAULT; left--) {
                step();
                switch (token) {
                    case END: return fault;
                    case 'n': readPlaces(); break;
                    case 'w': readWeight(); break;
                    case 'l': readLife(); break;
                    case 's': readShip(); break;
                    case 'y': readSpare(); break;
                    default: refuse(); break;
                }
                readEnd();
            }
            return fault;
        }

        private void startAnew(int itsLength) {
            plan.startAnew();
            length = itsLength;
            ships = 0;
            spares = 0;
            items = 0;
            fault = NO_FAULT;
            at = 0;
        }

        private void readPlaces() {
            if (items > 0) {
                refuse();
            }
            plan.places = readNumber(LEAST_PLACES, MOST_PLACES);
        }

        private void readWeight() {
            int k = readNumber(0, plan.places - 1);
            plan.weight[k] = readNumber(1, MOST_WEIGHT);
        }

        private void readLife() {
            int k = readNumber(0, plan.places - 1);
            plan.life[k] = readNumber(1, MOST_LIFE);
        }

        private void readShip() {
            if (ships >= TOLD_SHIPS) {
                refuse();
                return;
            }
            owner[ships] = readNumber(0, MOST_OWNER);
            ships++;
        }

        private void readSpare() {
            if (spares >= MOST_SPARES) {
                refuse();
                return;
            }
            sparePlace[spares] = readNumber(0, plan.places - 1);
            spareMake[spares] = readNumber(0, NEW_MAKE);
            if (!isMake(spareMake[spares])) {
                refuse();
            }
            spareAge[spares] = readNumber(0, MOST_SPARE_AGE);
            spares++;
        }

        private void readEnd() {
            if (fault != NO_FAULT) {
                return;
            }
            step();
            if (token != ';') {
                refuse();
            }
            items++;
        }

        /** Behind a fault nothing more is read, and the least number stands in for the rest. */
        private int readNumber(int least, int most) {
            if (fault != NO_FAULT) {
                return least;
            }
            step();
            if (token != NUMBER || value < least || value > most) {
                refuse();
                return least;
            }
            return value;
        }

        /** The first fault is the one that counts. */
        private void refuse() {
            if (fault == NO_FAULT) {
                fault = tokenAt;
            }
        }

        private void step() {
            while (at < length && text[at] == ' ') {
                at++;
            }
            tokenAt = at;
            if (at >= length) {
                token = END;
            } else if (isDigit(text[at])) {
                stepNumber();
            } else {
                token = text[at];
                at++;
            }
        }

        private void stepNumber() {
            boolean leadingZero = text[at] == '0';
            value = 0;
            while (at < length && isDigit(text[at])) {
                // Held down, since two hundred digits would not fit.
                value = Math.min(MOST_NUMBER + 1, value * 10 + text[at] - '0');
                at++;
            }
            boolean wrong = value > MOST_NUMBER || leadingZero && at > tokenAt + 1;
            token = wrong ? WRONG : NUMBER;
        }

        private static boolean isDigit(int letter) {
            return letter >= '0' && letter <= '9';
        }

        private void tellPlan(Plan told) {
            told.copyFrom(plan);
        }

        private void tellFleet(Fleet told) {
            told.startAnew();
            for (int i = 0; i < ships; i++) {
                int s = told.addShip(owner[i]);
                for (int k = 0; k < plan.places; k++) {
                    told.putIn(s, told.addPart(k, s, 0));
                }
            }
            for (int i = 0; i < spares; i++) {
                told.addPart(sparePlace[i], spareMake[i], spareAge[i]);
            }
        }
    }
}
