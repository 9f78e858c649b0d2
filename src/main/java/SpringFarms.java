/** One spring feeds a row of farms by hollow logs: what each takes, and what would be if. */
public final class SpringFarms {
    public static final int UNKNOWN = -1, OUTSIDE = -2, STATE = -3, FULL = -4, NO = -5, NONE = -6;
    public static final long GONE = -1000000000000000000L;

    private static final int MOST_FARMS = 9;
    private static final int MOST_SIGNS = 60;
    private static final int MOST_SIGHTS = 8;
    private static final int MOST_HOURS = 24;
    private static final int IMAGES = 2;
    // A farm takes 0 to 9 pails; borer, which finds most, finds 50 heights of each farm.
    private static final int TAKINGS = 10, MOST_FOUND = 450;

    // Facts of a farm, numbered as farm() and told() number them.
    private static final int HEIGHT = 0, WIDTH = 1, WANTS = 2, NORTH = 3, PLUGGED = 4, LEAKS = 5, PAILS = 6;
    private static final int FACTS = 7;
    private static final int[] FACT_AT_FIRST = {0, 1, 5, 0, 0, 0, 0};
    private static final int[] FACT_MOST = {50, 9, 99, 1, 1, 9, 999};
    private static final int[] FACT_BEHIND = {PAILS, HEIGHT, WIDTH, PLUGGED};

    // What set() sets, numbered as it numbers them.
    private static final int SPRING = 0, RAIN = 1, COWS = 2;
    private static final int RATES = 3;
    private static final int[] RATE_AT_FIRST = {20, 10, 5};
    private static final int[] RATE_MOST = {99, 50, 50};

    // What a part of a day does: first the four kinds of hours, then what is done to a farm.
    private static final int PLAIN = 0, NOON = 1, FROSTY = 2, WET = 3;
    private static final int TURN_PLUG = 4, LOWER = 5, RAISE = 6, WIDEN = 7;
    private static final int NOTHING = -1;
    private static final int HEIGHT_REASON = 1, WIDTH_REASON = 2;

    // Rests: how many may choose, among how many widths, and the rows of widths that makes at most.
    private static final int MOST_CHOOSERS = 3, CHOICES = 5, MOST_ROWS = 125;
    private static final int PAIL_GAIN = 4, WIDTH_COST = 3;

    private static final int MOST_CHANCE_HOURS = 12, TENTHS = 10;
    private static final int MOST_SEED = 9999, MOST_YEAR = 99;

    private final Row now = new Row();
    private final Row trial = new Row();
    // An image that was not kept yet is null.
    private final Row[] images = new Row[IMAGES];
    private final Hour asIs = new Hour();
    private final Hour other = new Hour();
    private final Day day = new Day();
    private final Course course = new Course();
    // Of each farm and each number of pails: in how many of leak's twos it takes so many.
    private final int[] tally = new int[MOST_FARMS * TAKINGS];
    private final int[] choosers = new int[MOST_CHOOSERS];
    private final int[] gains = new int[MOST_ROWS * MOST_CHOOSERS];
    // What leak, borer or rests found by its last call, in its order.
    private final int[] found = new int[MOST_FOUND];
    private int foundCount;

    public SpringFarms() {
    }

    // ---- 1 farms, days

    public int farms(int n) {
        if (n < 1 || n > MOST_FARMS) {
            return OUTSIDE;
        }
        int was = now.count;
        now.begin(n);
        return was;
    }

    public int farm(int farm, int what, int v) {
        if (!now.has(farm)) {
            return UNKNOWN;
        }
        if (!within(what, FACTS - 1) || !within(v, FACT_MOST[what])) {
            return OUTSIDE;
        }
        int was = now.fact(farm, what);
        now.put(farm, what, v);
        return was;
    }

    public int set(int which, int v) {
        if (!within(which, RATES - 1) || !within(v, RATE_MOST[which])) {
            return OUTSIDE;
        }
        int was = now.rates[which];
        now.rates[which] = v;
        return was;
    }

    public int say(int sign) {
        if (sign < 33 || sign > 126) {
            return OUTSIDE;
        }
        if (day.length >= MOST_SIGNS) {
            return FULL;
        }
        day.add(sign);
        return day.length;
    }

    public int wipe() {
        int were = day.length;
        day.length = 0;
        return were;
    }

    public int fault() {
        return day.read(now.count);
    }

    // ---- 2 hours

    public int judge(int what) {
        if (!within(what, 2)) {
            return OUTSIDE;
        }
        int refusal = liveDay();
        if (refusal == NO) {
            return NO;
        }
        if (what == 0) {
            return course.badPart;
        }
        if (what == 1) {
            return course.why;
        }
        return refusal == STATE ? STATE : course.hourCount;
    }

    public int behind(int farm, int what) {
        if (!now.has(farm)) {
            return UNKNOWN;
        }
        if (!within(what, FACT_BEHIND.length - 1)) {
            return OUTSIDE;
        }
        int refusal = liveDay();
        return refusal != 0 ? refusal : course.row.fact(farm, FACT_BEHIND[what]);
    }

    public int ditch() {
        int refusal = liveDay();
        return refusal != 0 ? refusal : course.row.ditch;
    }

    public int done() {
        int refusal = liveDay();
        if (refusal != 0) {
            return refusal;
        }
        now.copy(course.row);
        day.length = 0;
        return day.parts;
    }

    public int first(int farm) {
        if (!now.has(farm)) {
            return UNKNOWN;
        }
        int refusal = liveDay();
        return refusal != 0 ? refusal : course.enoughAt[farm];
    }

    public int takes(int farm, int what) {
        if (!now.has(farm)) {
            return UNKNOWN;
        }
        if (!within(what, 1)) {
            return OUTSIDE;
        }
        asIs.flow(now, PLAIN);
        return what == 0 ? asIs.taken[farm] : asIs.levels[farm];
    }

    public int takesIf(int farm, int plugged) {
        if (!now.has(farm) || !now.has(plugged)) {
            return UNKNOWN;
        }
        trial.copy(now);
        trial.turnPlug(plugged);
        other.flow(trial, PLAIN);
        return other.taken[farm];
    }

    public int robbed(int farm) {
        if (!now.has(farm)) {
            return UNKNOWN;
        }
        asIs.flow(now, PLAIN);
        trial.copy(now);
        trial.put(farm, PLUGGED, 1);
        other.flow(trial, PLAIN);
        int bits = 0;
        for (int f = 0; f < now.count; f++) {
            if (other.taken[f] > asIs.taken[f]) {
                bits |= 1 << f;
            }
        }
        return bits;
    }

    /** Lives the day on a copy of the farms; answers 0, or NO or STATE if it can not be lived. */
    private int liveDay() {
        if (day.read(now.count) != NONE) {
            return NO;
        }
        course.live(now, day);
        return course.badPart == NONE ? 0 : STATE;
    }

    // ---- 3 how much, how high

    public int hours() {
        asIs.flow(now, PLAIN);
        int most = 0;
        for (int f = 0; f < now.count; f++) {
            int lack = now.lack(f);
            int taken = asIs.taken[f];
            if (lack > 0) {
                if (taken <= 0) {
                    return NONE;
                }
                most = Math.max(most, (lack + taken - 1) / taken);
            }
        }
        return most;
    }

    public int spring(int m) {
        if (!isHours(m)) {
            return OUTSIDE;
        }
        trial.copy(now);
        for (int s = 0; s <= RATE_MOST[SPRING]; s++) {
            trial.rates[SPRING] = s;
            if (allHaveIn(m)) {
                return s;
            }
        }
        return NONE;
    }

    public int narrow(int m, int farm) {
        if (farm != -1 && !now.has(farm)) {
            return UNKNOWN;
        }
        if (!isHours(m)) {
            return OUTSIDE;
        }
        trial.copy(now);
        int sum = 0;
        for (int f = 0; f < now.count; f++) {
            // No width below this fills the pails, and a wider one upstream only takes from the rest.
            int width = (now.lack(f) + m - 1) / m;
            if (width > FACT_MOST[WIDTH]) {
                return NONE;
            }
            trial.put(f, WIDTH, width);
            sum += width;
        }
        if (!allHaveIn(m)) {
            return NONE;
        }
        return farm == -1 ? sum : trial.fact(farm, WIDTH);
    }

    public int highest(int farm, int m) {
        if (!now.has(farm)) {
            return UNKNOWN;
        }
        if (!isHours(m)) {
            return OUTSIDE;
        }
        trial.copy(now);
        for (int height = FACT_MOST[HEIGHT]; height >= 0; height--) {
            trial.put(farm, HEIGHT, height);
            if (allHaveIn(m)) {
                return height;
            }
        }
        return NONE;
    }

    public int bored(int height, int width, int what) {
        if (!within(height, FACT_MOST[HEIGHT]) || !within(width, FACT_MOST[WIDTH]) || !within(what, 1)) {
            return OUTSIDE;
        }
        if (now.count >= MOST_FARMS) {
            return STATE;
        }
        asIs.flow(now, PLAIN);
        int place = NONE;
        int most = 0;
        for (int p = 0; p <= now.count; p++) {
            int taken = takenIfBoredAt(p, height, width);
            if (taken > most) {
                most = taken;
                place = p;
            }
        }
        if (place == NONE) {
            return NONE;
        }
        return what == 0 ? place : most;
    }

    public int fair() {
        trial.copy(now);
        for (int x = FACT_MOST[WIDTH]; x > 0; x--) {
            if (isFair(x)) {
                return x;
            }
        }
        return 0;
    }

    public int dry(int less) {
        if (!within(less, RATE_MOST[SPRING])) {
            return OUTSIDE;
        }
        asIs.flow(now, PLAIN);
        trial.copy(now);
        trial.rates[SPRING] = Math.max(0, now.rates[SPRING] - less);
        other.flow(trial, PLAIN);
        for (int f = 0; f < now.count; f++) {
            if (other.taken[f] < asIs.taken[f]) {
                return f;
            }
        }
        return NONE;
    }

    private static boolean within(int v, int most) {
        return v >= 0 && v <= most;
    }

    private static boolean isHours(int m) {
        return m >= 1 && m <= MOST_HOURS;
    }

    /** Whether all farms have what they want in m plain hours of the trial. */
    private boolean allHaveIn(int m) {
        other.flow(trial, PLAIN);
        for (int f = 0; f < trial.count; f++) {
            if (m * other.taken[f] < trial.lack(f)) {
                return false;
            }
        }
        return true;
    }

    /** What a new farm takes at a place; 0 also if another farm (asIs is told of) takes less by it. */
    private int takenIfBoredAt(int place, int height, int width) {
        trial.copyWithNew(now, place, height, width);
        other.flow(trial, PLAIN);
        for (int f = 0; f < now.count; f++) {
            int moved = f < place ? f : f + 1;
            if (other.taken[moved] < asIs.taken[f]) {
                return 0;
            }
        }
        return other.taken[place];
    }

    /** Whether each farm of the trial that is not plugged takes x, all having that width. */
    private boolean isFair(int x) {
        for (int f = 0; f < trial.count; f++) {
            trial.put(f, WIDTH, x);
        }
        other.flow(trial, PLAIN);
        for (int f = 0; f < trial.count; f++) {
            if (trial.fact(f, PLUGGED) == 0 && other.taken[f] != x) {
                return false;
            }
        }
        return true;
    }

    // ---- 4 what is heard

    public int seen(int farm, int took) {
        if (!now.has(farm)) {
            return UNKNOWN;
        }
        if (!within(took, FACT_MOST[WIDTH])) {
            return OUTSIDE;
        }
        if (now.sights >= MOST_SIGHTS) {
            return FULL;
        }
        now.see(farm, took);
        return now.sights;
    }

    public int forget() {
        int were = now.sights;
        now.sights = 0;
        return were;
    }

    public int leak(int i) {
        findLeaks();
        return foundAt(i);
    }

    public int borer(int i) {
        foundCount = 0;
        trial.copy(now);
        for (int f = 0; f < now.count; f++) {
            for (int height = 0; height < now.fact(f, HEIGHT); height++) {
                if (fitsIf(f, HEIGHT, height)) {
                    note(100 * f + height);
                }
            }
        }
        return foundAt(i);
    }

    public int listen(int what) {
        if (!within(what, 1)) {
            return OUTSIDE;
        }
        findLeaks();
        if (foundCount == 0) {
            return NONE;
        }
        int best = 0;
        for (int f = 1; f < now.count; f++) {
            if (mostLeft(f) < mostLeft(best)) {
                best = f;
            }
        }
        return what == 0 ? best : mostLeft(best);
    }

    public int rests(int set, int i) {
        if (set <= 0 || set >= 1 << now.count) {
            return OUTSIDE;
        }
        if (Integer.bitCount(set) > MOST_CHOOSERS) {
            return FULL;
        }
        int choosing = gather(set);
        int rows = weighRows(choosing);
        foundCount = 0;
        for (int row = 0; row < rows; row++) {
            if (isAtRest(row, choosing)) {
                note(asDigits(row));
            }
        }
        return foundAt(i);
    }

    public long frost(int farm, int v, int c, int m, int part) {
        if (!now.has(farm)) {
            return GONE + UNKNOWN;
        }
        if (!within(v, 99) || !within(c, TENTHS) || !within(m, MOST_CHANCE_HOURS) || !within(part, 1)) {
            return GONE + OUTSIDE;
        }
        asIs.flow(now, PLAIN);
        other.flow(now, FROSTY);
        long upper = 0;
        long ways = 1;
        for (int frosty = 0; frosty <= m; frosty++) {
            if (frosty * other.taken[farm] + (m - frosty) * asIs.taken[farm] >= v) {
                upper += ways * power(c, frosty) * power(TENTHS - c, m - frosty);
            }
            ways = ways * (m - frosty) / (frosty + 1);
        }
        long lower = power(TENTHS, m);
        long common = commonDivisor(upper, lower);
        return (part == 0 ? upper : lower) / common;
    }

    public int year(int seed, int m, int what) {
        if (!within(seed, MOST_SEED) || m < 1 || m > MOST_YEAR || !within(what, 2)) {
            return OUTSIDE;
        }
        int pails = 0;
        int left = 0;
        int poor = 0;
        int x = seed;
        for (int hour = 0; hour < m; hour++) {
            x = (75 * x + 74) % 65537;
            other.flow(now, kindOfDraw(x % 10));
            pails += other.sum(now.count);
            left += other.left;
            poor += other.someTookNothing(now.count) ? 1 : 0;
        }
        if (what == 0) {
            return pails;
        }
        return what == 1 ? left : poor;
    }

    public int image(int n) {
        if (!within(n, IMAGES - 1)) {
            return OUTSIDE;
        }
        Row image = images[n];
        if (image == null) {
            image = new Row();
            images[n] = image;
        }
        image.copy(now);
        return 1;
    }

    public int restore(int n) {
        if (!within(n, IMAGES - 1)) {
            return OUTSIDE;
        }
        Row image = images[n];
        if (image == null) {
            return STATE;
        }
        now.copy(image);
        return 1;
    }

    public int told(int what) {
        switch (what) {
            case 0: return day.length;
            case 1: return now.count;
            case 2: return now.rates[SPRING];
            case 3: return now.rates[RAIN];
            case 4: return now.rates[COWS];
            case 5: return now.ditch;
            case 6: return now.sights;
            default: return toldOfFarm(what);
        }
    }

    private int toldOfFarm(int what) {
        if (what < 10) {
            return OUTSIDE;
        }
        int farm = what / 10 - 1;
        int fact = what % 10;
        return now.has(farm) && fact < FACTS ? now.fact(farm, fact) : OUTSIDE;
    }

    /** Whether all sights were so, if a farm of the trial (else as all is now) had v; it is put back. */
    private boolean fitsIf(int farm, int what, int v) {
        trial.put(farm, what, v);
        other.flow(trial, PLAIN);
        trial.put(farm, what, now.fact(farm, what));
        for (int s = 0; s < now.sights; s++) {
            if (other.taken[now.sightFarm[s]] != now.sightTook[s]) {
                return false;
            }
        }
        return true;
    }

    private void note(int answer) {
        if (foundCount < found.length) {
            found[foundCount] = answer;
            foundCount++;
        }
    }

    private int foundAt(int i) {
        if (i == -1) {
            return foundCount;
        }
        return i >= 0 && i < foundCount ? found[i] : NONE;
    }

    /** Finds leak's twos, and tallies what the farms take by them. */
    private void findLeaks() {
        foundCount = 0;
        for (int k = 0; k < tally.length; k++) {
            tally[k] = 0;
        }
        trial.copy(now);
        for (int f = 0; f < now.count; f++) {
            int leaks = now.fact(f, LEAKS);
            for (int more = 1; leaks + more <= FACT_MOST[LEAKS]; more++) {
                if (fitsIf(f, LEAKS, leaks + more)) {
                    note(10 * f + more);
                    tallyTaken();
                }
            }
        }
    }

    private void tallyTaken() {
        for (int f = 0; f < now.count; f++) {
            tally[f * TAKINGS + other.taken[f]]++;
        }
    }

    /** How many of the tallied twos are left at the most, once a farm is listened at. */
    private int mostLeft(int farm) {
        int most = 0;
        for (int taken = 0; taken < TAKINGS; taken++) {
            most = Math.max(most, tally[farm * TAKINGS + taken]);
        }
        return most;
    }

    /** Lists the farms of a set, the least first: how many. */
    private int gather(int set) {
        int size = 0;
        for (int f = 0; f < now.count && size < MOST_CHOOSERS; f++) {
            if ((set >> f & 1) != 0) {
                choosers[size] = f;
                size++;
            }
        }
        return size;
    }

    /** By how much a row's number grows when the k-th of so many choosers has one width more. */
    private static int stride(int k, int choosing) {
        int stride = 1;
        for (int later = k + 1; later < choosing; later++) {
            stride *= CHOICES;
        }
        return stride;
    }

    /** The width that the chooser of a stride has in a row. */
    private static int choice(int row, int stride) {
        return stride < 1 ? 0 : row / stride % CHOICES;
    }

    /** Fills in what each chooser gets by each row of widths: how many rows there are. */
    private int weighRows(int choosing) {
        trial.copy(now);
        int rows = Math.min(MOST_ROWS, CHOICES * stride(0, choosing));
        for (int row = 0; row < rows; row++) {
            for (int k = 0; k < choosing; k++) {
                trial.put(choosers[k], WIDTH, choice(row, stride(k, choosing)));
            }
            other.flow(trial, PLAIN);
            for (int k = 0; k < choosing; k++) {
                int f = choosers[k];
                gains[row * MOST_CHOOSERS + k] = PAIL_GAIN * other.taken[f] - WIDTH_COST * trial.fact(f, WIDTH);
            }
        }
        return rows;
    }

    /** Whether no chooser gets more by another width, the others as in the row. */
    private boolean isAtRest(int row, int choosing) {
        for (int k = 0; k < choosing; k++) {
            int stride = stride(k, choosing);
            int base = row - choice(row, stride) * stride;
            for (int width = 0; width < CHOICES; width++) {
                int moved = base + width * stride;
                if (gains[moved * MOST_CHOOSERS + k] > gains[row * MOST_CHOOSERS + k]) {
                    return false;
                }
            }
        }
        return true;
    }

    /** The widths of a row, side by side, as a number of ten. */
    private static int asDigits(int row) {
        return row / 25 * 100 + row / 5 % 5 * 10 + row % 5;
    }

    private static long power(int base, int exponent) {
        long power = 1;
        for (int k = 0; k < exponent; k++) {
            power *= base;
        }
        return power;
    }

    /** The greatest common divisor of a (0 on) and b (1 on), which is 1 at least. */
    private static long commonDivisor(long a, long b) {
        long high = a;
        long low = b;
        for (int step = 0; step < 100 && high > 0; step++) {
            long left = low % high;
            low = high;
            high = left;
        }
        return Math.max(1, low);
    }

    private static int kindOfDraw(int digit) {
        switch (digit) {
            case 0: return FROSTY;
            case 1:
            case 2: return WET;
            case 3: return NOON;
            default: return PLAIN;
        }
    }

    /** All that an image keeps: the farms, what springs, rain and cows do, the ditch, the sights. */
    private static final class Row {
        int count;
        int ditch;
        int sights;
        final int[] facts = new int[MOST_FARMS * FACTS];
        final int[] rates = new int[RATES];
        final int[] sightFarm = new int[MOST_SIGHTS];
        final int[] sightTook = new int[MOST_SIGHTS];

        Row() {
            System.arraycopy(RATE_AT_FIRST, 0, rates, 0, RATES);
            begin(MOST_FARMS);
        }

        /** So many farms, all as at first. */
        void begin(int farms) {
            count = farms;
            ditch = 0;
            sights = 0;
            for (int f = 0; f < MOST_FARMS; f++) {
                System.arraycopy(FACT_AT_FIRST, 0, facts, f * FACTS, FACTS);
            }
        }

        void copy(Row from) {
            count = from.count;
            ditch = from.ditch;
            sights = from.sights;
            System.arraycopy(from.facts, 0, facts, 0, facts.length);
            System.arraycopy(from.rates, 0, rates, 0, RATES);
            System.arraycopy(from.sightFarm, 0, sightFarm, 0, MOST_SIGHTS);
            System.arraycopy(from.sightTook, 0, sightTook, 0, MOST_SIGHTS);
        }

        boolean has(int farm) {
            return farm >= 0 && farm < count;
        }

        int fact(int farm, int what) {
            return facts[farm * FACTS + what];
        }

        void put(int farm, int what, int v) {
            facts[farm * FACTS + what] = v;
        }

        void turnPlug(int farm) {
            put(farm, PLUGGED, 1 - fact(farm, PLUGGED));
        }

        /** How many pails a farm wants beyond those that it has; 0 at least. */
        int lack(int farm) {
            return Math.max(0, fact(farm, WANTS) - fact(farm, PAILS));
        }

        void see(int farm, int took) {
            sightFarm[sights] = farm;
            sightTook[sights] = took;
            sights++;
        }

        /** As another row of fewer than nine farms, with a new one at a place. */
        void copyWithNew(Row from, int place, int height, int width) {
            copy(from);
            int at = place * FACTS;
            System.arraycopy(from.facts, at, facts, at + FACTS, (from.count - place) * FACTS);
            System.arraycopy(FACT_AT_FIRST, 0, facts, at, FACTS);
            put(place, HEIGHT, height);
            put(place, WIDTH, width);
            count = from.count + 1;
        }

        int levelAtSpring(int kind) {
            int level = rates[SPRING];
            if (kind == WET) {
                level += rates[RAIN];
            }
            if (kind == NOON) {
                level -= rates[COWS];
            }
            return Math.max(0, level);
        }

        boolean takesNone(int farm, int kind) {
            return fact(farm, PLUGGED) != 0 || kind == FROSTY && fact(farm, NORTH) != 0;
        }

        /** Why an act on a farm can not be, or 0. */
        int reasonAgainst(int act, int farm) {
            if (act == LOWER && fact(farm, HEIGHT) <= 0) {
                return HEIGHT_REASON;
            }
            if (act == RAISE && fact(farm, HEIGHT) >= FACT_MOST[HEIGHT]) {
                return HEIGHT_REASON;
            }
            if (act == WIDEN && fact(farm, WIDTH) >= FACT_MOST[WIDTH]) {
                return WIDTH_REASON;
            }
            return 0;
        }

        void apply(int act, int farm) {
            switch (act) {
                case TURN_PLUG: turnPlug(farm); break;
                case LOWER: put(farm, HEIGHT, fact(farm, HEIGHT) - 1); break;
                case RAISE: put(farm, HEIGHT, fact(farm, HEIGHT) + 1); break;
                case WIDEN: put(farm, WIDTH, fact(farm, WIDTH) + 1); break;
                default: break;
            }
        }

        void keep(Hour hour) {
            for (int f = 0; f < count; f++) {
                put(f, PAILS, fact(f, PAILS) + hour.taken[f]);
            }
            ditch += hour.left;
        }
    }

    /** How the water goes in one hour; the farms themselves stay as they are. */
    private static final class Hour {
        final int[] taken = new int[MOST_FARMS];
        final int[] levels = new int[MOST_FARMS];
        int left;

        void flow(Row row, int kind) {
            int level = row.levelAtSpring(kind);
            for (int f = 0; f < row.count; f++) {
                level = Math.max(0, level - row.fact(f, LEAKS));
                int above = Math.max(0, level - row.fact(f, HEIGHT));
                levels[f] = level;
                taken[f] = row.takesNone(f, kind) ? 0 : Math.min(row.fact(f, WIDTH), above);
                level -= taken[f];
            }
            left = level;
        }

        int sum(int farms) {
            int sum = 0;
            for (int f = 0; f < farms; f++) {
                sum += taken[f];
            }
            return sum;
        }

        boolean someTookNothing(int farms) {
            for (int f = 0; f < farms; f++) {
                if (taken[f] == 0) {
                    return true;
                }
            }
            return false;
        }
    }

    /** The pad, and the parts that its signs tell. */
    private static final class Day {
        final int[] signs = new int[MOST_SIGNS];
        int length;
        final int[] acts = new int[MOST_SIGNS];
        final int[] farmOf = new int[MOST_SIGNS];
        int parts;

        void add(int sign) {
            signs[length] = sign;
            length++;
        }

        /** Finds the parts, of so many farms: the place of the fault, or NONE. */
        int read(int farms) {
            parts = 0;
            int at = 0;
            for (int step = 0; step < MOST_SIGNS && at < length; step++) {
                int farm = signs[at] - 'A';
                boolean ofFarm = farm >= 0 && farm < farms;
                int act = ofFarm ? actOn(at + 1) : hourOf(signs[at]);
                if (act == NOTHING) {
                    return at;
                }
                acts[parts] = act;
                farmOf[parts] = ofFarm ? farm : 0;
                parts++;
                at += ofFarm && act != TURN_PLUG ? 2 : 1;
            }
            return NONE;
        }

        /** What is done to the farm whose capital stands ahead of a place. */
        int actOn(int at) {
            switch (at < length ? signs[at] : 0) {
                case '<': return LOWER;
                case '>': return RAISE;
                case 'w': return WIDEN;
                default: return TURN_PLUG;
            }
        }

        static int hourOf(int sign) {
            switch (sign) {
                case '.': return PLAIN;
                case 'n': return NOON;
                case '*': return FROSTY;
                case '+': return WET;
                default: return NOTHING;
            }
        }
    }

    /** What comes of a day that is lived on a copy of the farms, up to the first part that can not be. */
    private static final class Course {
        final Row row = new Row();
        final Hour hour = new Hour();
        final int[] enoughAt = new int[MOST_FARMS];
        int badPart;
        int why;
        int hourCount;

        void live(Row from, Day day) {
            row.copy(from);
            badPart = NONE;
            why = NONE;
            hourCount = 0;
            for (int f = 0; f < MOST_FARMS; f++) {
                enoughAt[f] = NONE;
            }
            noteEnough();
            for (int part = 0; part < day.parts; part++) {
                int reason = row.reasonAgainst(day.acts[part], day.farmOf[part]);
                if (reason != 0) {
                    badPart = part;
                    why = reason;
                    return;
                }
                pass(day.acts[part], day.farmOf[part]);
            }
        }

        void pass(int act, int farm) {
            if (act > WET) {
                row.apply(act, farm);
                return;
            }
            hour.flow(row, act);
            row.keep(hour);
            hourCount++;
            noteEnough();
        }

        void noteEnough() {
            for (int f = 0; f < row.count; f++) {
                if (enoughAt[f] == NONE && row.lack(f) == 0) {
                    enoughAt[f] = hourCount;
                }
            }
        }
    }
}
