import java.util.NoSuchElementException;

/**
 * Men, deeds and the clauses pressed on them, read from a text; ../shared/DOC.md numbers the promises.
 *
 * A set of deeds is a number below 64, so all the sets that keep a clause fit into the bits of one long,
 * and what a man MAY do is the common bits of the clauses that BIND him.
 */
public final class CheekClause {
    public static final int NONE = -1;

    private static final int NOTHING = -2;
    private static final int NO_GAIN = -100;

    private static final int FINE = 0;
    private static final int NO_SUCH = 1;
    private static final int BAD_NUMBER = 2;
    private static final int NO_ROOM = 3;
    private static final int FAULTY = 4;
    private static final int NOT_SO = 5;
    private static final int NONE_THERE = 6;

    private static final int TAPE_ROOM = 900;
    private static final int FEED_BYTES = 20;
    private static final int MAN_ROOM = 4;
    private static final int DEED_ROOM = 6;
    private static final int CLAUSE_ROOM = 8;
    private static final int UNSURE_ROOM = 5;
    private static final int DID_ROOM = 6;
    private static final int NAME_ROOM = MAN_ROOM + DEED_ROOM + CLAUSE_ROOM;
    private static final int ACT_ROOM = 16;
    private static final int IMAGE_ROOM = 3;

    private static final int MOST_AHEAD = 60;
    private static final int MOST_DAYS = 999;
    private static final int MOST_CHAIN = 9;
    private static final int SEEDS = 65537;
    private static final int HUNDRED = 100;

    private static final int MUST = 0;
    private static final int MUSTNT = 1;
    private static final int IF = 2;
    private static final int UNLESS = 3;
    private static final int NOTBOTH = 4;
    private static final int EITHER = 5;

    private final Reader reader;
    private City city;
    private final Page first;
    private final Page now;
    private final Page rainy;
    private final Past past;
    private final Fits fits;
    private final Spread spread;
    private int trouble;
    private int fault;
    private int place;

    public CheekClause() {
        reader = new Reader();
        city = new City();
        first = new Page();
        now = new Page();
        rainy = new Page();
        past = new Past();
        fits = new Fits();
        spread = new Spread();
        trouble = FINE;
        fault = 0;
        place = NONE;
    }

    // ---- the city

    public int feed(int a, int b, int c, int d, int e) {
        if (reader.fed + FEED_BYTES > TAPE_ROOM) {
            return NONE;
        }
        reader.takeFour(a);
        reader.takeFour(b);
        reader.takeFour(c);
        reader.takeFour(d);
        reader.takeFour(e);
        return reader.fed;
    }

    public int city(int n) {
        if (n < 0 || n > reader.fed) {
            return refused(BAD_NUMBER);
        }
        boolean read = reader.readCity(n);
        fault = reader.fault;
        place = reader.faultPlace;
        if (!read) {
            return refused(FAULTY);
        }
        settle();
        return answered(city.men);
    }

    public int fault() {
        return fault;
    }

    public int where() {
        return trouble == FAULTY ? place : NONE;
    }

    // ---- now

    public int clause(int c, int what) {
        if (!isClause(c)) {
            return refused(NO_SUCH);
        }
        switch (what) {
            case 0: return answered(city.form[c]);
            case 1: return answered(city.first[c]);
            case 2: return answered(city.second[c]);
            case 3: return answered(now.man[c]);
            case 4: return answered(now.ink[c]);
            case 5: return answered(now.turned >> c & 1);
            case 6: return answered(city.ink[c]);
            default: return refused(NO_SUCH);
        }
    }

    public int man(int m, int what) {
        if (!isMan(m)) {
            return refused(NO_SUCH);
        }
        switch (what) {
            case 0: return answered(now.pressedOn(m));
            case 1: return answered(bound(m, 0));
            case 2: return answered(now.inkOf(bound(m, 0)));
            default: return refused(NO_SUCH);
        }
    }

    public int keeps(int c, int set) {
        if (!isClause(c)) {
            return refused(NO_SUCH);
        }
        if (!isSet(set)) {
            return refused(BAD_NUMBER);
        }
        return answered(isIn(setsUnder(1 << c), set) ? 1 : 0);
    }

    public int may(int m, int set) {
        if (!isMan(m)) {
            return refused(NO_SUCH);
        }
        if (!isSet(set)) {
            return refused(BAD_NUMBER);
        }
        return answered(isIn(waysOf(m), set) ? 1 : 0);
    }

    public int ways(int m) {
        if (!isMan(m)) {
            return refused(NO_SUCH);
        }
        return answered(Long.bitCount(waysOf(m)));
    }

    public int wayAt(int m, int i) {
        if (!isMan(m)) {
            return refused(NO_SUCH);
        }
        int way = bitAt(waysOf(m), i);
        return way == NONE ? refused(NO_SUCH) : answered(way);
    }

    public int can(int m) {
        if (!isMan(m)) {
            return refused(NO_SUCH);
        }
        return answered(deedsInSome(waysOf(m)));
    }

    public int must(int m) {
        if (!isMan(m)) {
            return refused(NO_SUCH);
        }
        return answered(deedsInAll(waysOf(m)));
    }

    public int idlest(int m) {
        if (!isMan(m)) {
            return refused(NO_SUCH);
        }
        long sets = waysOf(m);
        int best = NOTHING;
        for (int set = 0; set < setCount(); set++) {
            if (isIn(sets, set) && (best == NOTHING || Integer.bitCount(set) < Integer.bitCount(best))) {
                best = set;
            }
        }
        return answered(best);
    }

    public int stuck() {
        if (noCity()) {
            return refused(NO_SUCH);
        }
        int bits = 0;
        for (int m = 0; m < city.men; m++) {
            if (waysOf(m) == 0) {
                bits |= 1 << m;
            }
        }
        return answered(bits);
    }

    public int mostBound() {
        if (noCity()) {
            return refused(NO_SUCH);
        }
        int best = 0;
        for (int m = 1; m < city.men; m++) {
            if (Long.bitCount(waysOf(m)) < Long.bitCount(waysOf(best))) {
                best = m;
            }
        }
        return answered(best);
    }

    // ---- what bars, what frees

    public int bar(int m) {
        if (!isMan(m)) {
            return refused(NO_SUCH);
        }
        int all = bound(m, 0);
        int best = NOTHING;
        for (int part = 0; part <= all; part++) {
            if (isPart(part, all) && setsUnder(part) == 0
                    && (best == NOTHING || Integer.bitCount(part) < Integer.bitCount(best))) {
                best = part;
            }
        }
        return answered(best);
    }

    public int free(int m) {
        if (!isMan(m)) {
            return refused(NO_SUCH);
        }
        int all = bound(m, 0);
        int best = all;
        for (int part = 0; part <= all; part++) {
            if (isPart(part, all) && setsUnder(all & ~part) != 0
                    && Integer.bitCount(part) < Integer.bitCount(best)) {
                best = part;
            }
        }
        return answered(best);
    }

    public int cheap(int m) {
        if (!isMan(m)) {
            return refused(NO_SUCH);
        }
        return answered(cheapest(m));
    }

    public int price(int m) {
        if (!isMan(m)) {
            return refused(NO_SUCH);
        }
        return answered(now.inkOf(cheapest(m)));
    }

    public int idle(int m) {
        if (!isMan(m)) {
            return refused(NO_SUCH);
        }
        int all = bound(m, 0);
        long sets = setsUnder(all);
        int bits = 0;
        for (int c = 0; c < city.clauses; c++) {
            if (isIn(all, c) && setsUnder(all & ~(1 << c)) == sets) {
                bits |= 1 << c;
            }
        }
        return answered(bits);
    }

    public int heaviest(int m) {
        if (!isMan(m)) {
            return refused(NO_SUCH);
        }
        int all = bound(m, 0);
        int best = NOTHING;
        int most = NONE;
        for (int c = 0; c < city.clauses; c++) {
            if (isIn(all, c)) {
                int count = Long.bitCount(setsUnder(all & ~(1 << c)));
                if (count > most) {
                    most = count;
                    best = c;
                }
            }
        }
        return answered(best);
    }

    public int feared(int m) {
        if (!isMan(m)) {
            return refused(NO_SUCH);
        }
        int all = bound(m, 0);
        int others = now.binding(0) & ~now.pressedOn(m);
        boolean isStuck = setsUnder(all) == 0;
        int bits = 0;
        for (int c = 0; c < city.clauses; c++) {
            if (!isStuck && isIn(others, c) && setsUnder(all | 1 << c) == 0) {
                bits |= 1 << c;
            }
        }
        return answered(bits);
    }

    // ---- spread over men

    public int spread() {
        if (noCity()) {
            return refused(NO_SUCH);
        }
        return answered(spread.fewestMen(city, now));
    }

    public int spreadAt(int c) {
        if (!isClause(c)) {
            return refused(NO_SUCH);
        }
        spread.fewestMen(city, now);
        return answered(spread.row[c]);
    }

    public int together() {
        if (noCity()) {
            return refused(NO_SUCH);
        }
        int all = now.binding(0);
        int best = 0;
        for (int part = 0; part <= all; part++) {
            if (isPart(part, all) && Integer.bitCount(part) > Integer.bitCount(best) && setsUnder(part) != 0) {
                best = part;
            }
        }
        return answered(best);
    }

    // ---- days to come

    public int ink(int c, int n) {
        if (!isClause(c)) {
            return refused(NO_SUCH);
        }
        if (!isAhead(n)) {
            return refused(BAD_NUMBER);
        }
        return answered(Math.max(0, now.ink[c] - n));
    }

    public int waysIn(int m, int n) {
        if (!isMan(m)) {
            return refused(NO_SUCH);
        }
        if (!isAhead(n)) {
            return refused(BAD_NUMBER);
        }
        return answered(Long.bitCount(setsUnder(bound(m, n))));
    }

    public int freeIn(int m) {
        if (!isMan(m)) {
            return refused(NO_SUCH);
        }
        int n = 0;
        while (n < MOST_AHEAD && setsUnder(bound(m, n)) == 0) {
            n++;
        }
        return answered(n);
    }

    public int clearIn(int m) {
        if (!isMan(m)) {
            return refused(NO_SUCH);
        }
        int n = 0;
        while (n < MOST_AHEAD && bound(m, n) != 0) {
            n++;
        }
        return answered(n);
    }

    public int mayIn(int m, int set) {
        if (!isMan(m)) {
            return refused(NO_SUCH);
        }
        if (!isSet(set)) {
            return refused(BAD_NUMBER);
        }
        int n = 0;
        while (n < MOST_AHEAD && !isIn(setsUnder(bound(m, n)), set)) {
            n++;
        }
        return answered(n);
    }

    // ---- read the wrong way round

    public int fits() {
        if (noCity()) {
            return refused(NO_SUCH);
        }
        return answered(Long.bitCount(fits.fitting()));
    }

    public int fitAt(int i) {
        int set = noCity() ? NONE : bitAt(fits.fitting(), i);
        return set == NONE ? refused(NO_SUCH) : answered(set);
    }

    public long odds(int k, boolean lower) {
        if (k < 0 || k >= city.unsure) {
            return refused(NO_SUCH);
        }
        trouble = FINE;
        return lowestTerms(fits.weightWith(1 << k), fits.weightWith(0), lower);
    }

    public int likeliest() {
        if (noCity()) {
            return refused(NO_SUCH);
        }
        return answered(fits.likeliestSet());
    }

    public int ask() {
        if (noCity()) {
            return refused(NO_SUCH);
        }
        return answered(askedOne());
    }

    public int askLeaves() {
        if (noCity()) {
            return refused(NO_SUCH);
        }
        int asked = askedOne();
        return answered(asked == NOTHING ? NOTHING : fits.leftAtMost(asked));
    }

    public int judge() {
        if (noCity()) {
            return refused(NO_SUCH);
        }
        for (int i = 0; i < city.dids; i++) {
            if (!city.isToldTruly(i, first, 0)) {
                return answered(i);
            }
        }
        return answered(NOTHING);
    }

    // ---- merchant and clause

    public int shaves(int chain, boolean shaved, boolean read, boolean ofClause) {
        int wrong = chainTrouble(chain);
        if (wrong != FINE) {
            refused(wrong);
            return NO_GAIN;
        }
        return answered(gain(chain, shaved, read, ofClause));
    }

    public int rests(int chain) {
        int wrong = chainTrouble(chain);
        if (wrong != FINE) {
            return refused(wrong);
        }
        int count = 0;
        for (int pair = 0; pair < 4; pair++) {
            if (isRest(chain, pair)) {
                count++;
            }
        }
        return answered(count);
    }

    public int rest(int chain) {
        int wrong = chainTrouble(chain);
        if (wrong != FINE) {
            return refused(wrong);
        }
        for (int pair = 0; pair < 4; pair++) {
            if (isRest(chain, pair)) {
                return answered((shavesIn(pair) ? 10 : 0) + (readIn(pair) ? 1 : 0));
            }
        }
        return answered(NOTHING);
    }

    // ---- rain

    public long mayOdds(int m, int set, boolean lower) {
        if (!isMan(m)) {
            return refused(NO_SUCH);
        }
        if (!isSet(set)) {
            return refused(BAD_NUMBER);
        }
        int all = bound(m, 0);
        int broken = 0;
        for (int c = 0; c < city.clauses; c++) {
            if (isIn(all, c) && !isIn(setsUnder(1 << c), set)) {
                broken++;
            }
        }
        trouble = FINE;
        return lowestTerms(power(city.rain, broken), power(HUNDRED, broken), lower);
    }

    public long freeOdds(int m, boolean lower) {
        if (!isMan(m)) {
            return refused(NO_SUCH);
        }
        int all = bound(m, 0);
        long upper = 0;
        for (int left = 0; left <= all; left++) {
            if (isPart(left, all) && setsUnder(left) != 0) {
                upper += rainWeight(left, all);
            }
        }
        trouble = FINE;
        return lowestTerms(upper, power(HUNDRED, Integer.bitCount(all)), lower);
    }

    public long mean(int m, boolean lower) {
        if (!isMan(m)) {
            return refused(NO_SUCH);
        }
        int all = bound(m, 0);
        long upper = 0;
        for (int left = 0; left <= all; left++) {
            if (isPart(left, all)) {
                upper += rainWeight(left, all) * Long.bitCount(setsUnder(left));
            }
        }
        trouble = FINE;
        return lowestTerms(upper, power(HUNDRED, Integer.bitCount(all)), lower);
    }

    public int rained(int seed, int n) {
        if (noCity()) {
            return refused(NO_SUCH);
        }
        if (!isSeed(seed) || !isAhead(n)) {
            return refused(BAD_NUMBER);
        }
        rainy.becomes(now);
        int drawn = seed;
        for (int i = 0; i < n; i++) {
            drawn = rainy.passRainyDay(city.rain, drawn);
        }
        return answered(rainy.binding(0));
    }

    public int freeBy(int m, int seed, int n) {
        if (!isMan(m)) {
            return refused(NO_SUCH);
        }
        if (!isSeed(seed) || !isAhead(n)) {
            return refused(BAD_NUMBER);
        }
        rainy.becomes(now);
        int drawn = seed;
        for (int i = 0; i <= n; i++) {
            if (setsUnder(rainy.binding(0) & rainy.pressedOn(m)) != 0) {
                return answered(i);
            }
            drawn = rainy.passRainyDay(city.rain, drawn);
        }
        return answered(NOTHING);
    }

    // ---- acts

    public int day() {
        if (noCity()) {
            return refused(NO_SUCH);
        }
        if (now.days >= MOST_DAYS) {
            return refused(NO_ROOM);
        }
        past.keepAct(now);
        return answered(now.passDay());
    }

    public int press(int c, int m) {
        if (!isClause(c) || !isMan(m)) {
            return refused(NO_SUCH);
        }
        past.keepAct(now);
        return answered(now.pressOn(c, m, city.ink[c], city.blur));
    }

    public boolean wash(int c) {
        if (!isClause(c)) {
            refused(NO_SUCH);
            return false;
        }
        if (now.ink[c] == 0) {
            refused(NOT_SO);
            return false;
        }
        past.keepAct(now);
        now.ink[c] = 0;
        trouble = FINE;
        return true;
    }

    public int turn(int c) {
        if (!isClause(c)) {
            return refused(NO_SUCH);
        }
        past.keepAct(now);
        now.turned ^= 1 << c;
        return answered(now.turned >> c & 1);
    }

    public boolean undo() {
        boolean undone = past.undoInto(now);
        trouble = undone ? FINE : NONE_THERE;
        return undone;
    }

    public int image() {
        if (noCity()) {
            return refused(NO_SUCH);
        }
        int number = past.keepImage(now);
        return number == NONE ? refused(NO_ROOM) : answered(number);
    }

    public boolean back(int image) {
        boolean gone = past.goBackInto(now, image);
        trouble = gone ? FINE : NO_SUCH;
        return gone;
    }

    // ---- what is told

    public int led(int i) throws NoSuchElementException {
        int idleOnes = (1 << city.clauses) - 1 & ~now.binding(0);
        int c = bitAt(idleOnes, i);
        if (c == NONE) {
            throw new NoSuchElementException("there is no such clause without ink");
        }
        return c;
    }

    public int size(int what) {
        switch (what) {
            case 0: return city.blur;
            case 1: return city.slips;
            case 2: return city.rain;
            case 3: return city.men;
            case 4: return city.deeds;
            case 5: return city.clauses;
            case 6: return city.unsure;
            case 7: return city.dids;
            case 8: return now.days;
            case 9: return past.acts;
            case 10: return past.images;
            case 11: return reader.fed;
            default: return NONE;
        }
    }

    public int trouble() {
        return trouble;
    }

    // ---- refusing and answering

    private int refused(int number) {
        trouble = number;
        return NONE;
    }

    private int answered(int answer) {
        trouble = FINE;
        return answer;
    }

    private boolean noCity() {
        // a CITY has a man at least, so the empty one is the only one without
        return city.men == 0;
    }

    private boolean isMan(int m) {
        return m >= 0 && m < city.men;
    }

    private boolean isClause(int c) {
        return c >= 0 && c < city.clauses;
    }

    private boolean isSet(int set) {
        return set >= 0 && set < setCount();
    }

    private static boolean isAhead(int n) {
        return n >= 0 && n <= MOST_AHEAD;
    }

    private static boolean isSeed(int seed) {
        return seed >= 0 && seed < SEEDS;
    }

    private int chainTrouble(int chain) {
        if (noCity()) {
            return NO_SUCH;
        }
        return chain < 0 || chain > MOST_CHAIN ? BAD_NUMBER : FINE;
    }

    private void settle() {
        // the city left goes back to the reader, which fills it anew: no call makes objects
        city = reader.handOver(city);
        first.clear();
        for (int c = 0; c < city.clauses; c++) {
            first.pressOn(c, city.man[c], city.ink[c], city.blur);
        }
        now.becomes(first);
        past.forget();
        fits.weigh(city, first);
    }

    // ---- bits and sets

    private static boolean isIn(long bits, int i) {
        return (bits >>> i & 1) != 0;
    }

    private static boolean isPart(int part, int all) {
        return (part & ~all) == 0;
    }

    private static int bitAt(long bits, int i) {
        int before = 0;
        for (int bit = 0; bit < 64; bit++) {
            if (isIn(bits, bit)) {
                if (before == i) {
                    return bit;
                }
                before++;
            }
        }
        return NONE;
    }

    private int setCount() {
        return 1 << city.deeds;
    }

    private int bound(int m, int daysAhead) {
        return now.binding(daysAhead) & now.pressedOn(m);
    }

    private long setsUnder(int clauseBits) {
        return city.setsKeeping(clauseBits, now.turned);
    }

    private long waysOf(int m) {
        return setsUnder(bound(m, 0));
    }

    private int deedsInSome(long sets) {
        int deeds = 0;
        for (int d = 0; d < city.deeds; d++) {
            if ((sets & City.setsWith(d)) != 0) {
                deeds |= 1 << d;
            }
        }
        return deeds;
    }

    private int deedsInAll(long sets) {
        int deeds = 0;
        for (int d = 0; d < city.deeds; d++) {
            if (sets != 0 && (sets & ~City.setsWith(d)) == 0) {
                deeds |= 1 << d;
            }
        }
        return deeds;
    }

    private int cheapest(int m) {
        int all = bound(m, 0);
        int best = all;
        for (int part = 0; part <= all; part++) {
            if (isPart(part, all) && setsUnder(all & ~part) != 0 && now.inkOf(part) < now.inkOf(best)) {
                best = part;
            }
        }
        return best;
    }

    private int askedOne() {
        int best = NOTHING;
        for (int k = 0; k < city.unsure; k++) {
            if (fits.fitting() != 0 && (best == NOTHING || fits.leftAtMost(k) < fits.leftAtMost(best))) {
                best = k;
            }
        }
        return best;
    }

    // ---- odds

    private long rainWeight(int left, int all) {
        int stay = Integer.bitCount(left);
        return power(HUNDRED - city.rain, stay) * power(city.rain, Integer.bitCount(all) - stay);
    }

    private static long power(int base, int exponent) {
        long product = 1;
        for (int i = 0; i < exponent; i++) {
            product *= base;
        }
        return product;
    }

    private static long lowestTerms(long upper, long lower, boolean wantsLower) {
        long common = lower;
        long other = upper;
        // Euclid needs less than a hundred steps for any two longs
        for (int i = 0; i < 100 && other != 0; i++) {
            long rest = common % other;
            common = other;
            other = rest;
        }
        if (common == 0) {
            return wantsLower ? 1 : 0;
        }
        return wantsLower ? lower / common : upper / common;
    }

    // ---- merchant and clause

    private static int gain(int chain, boolean shaved, boolean read, boolean ofClause) {
        if (shaved && read) {
            return ofClause ? 3 : -chain;
        }
        if (shaved) {
            return ofClause ? 0 : 4;
        }
        return read ? 1 : 2;
    }

    private static boolean shavesIn(int pair) {
        return pair >= 2;
    }

    private static boolean readIn(int pair) {
        return (pair & 1) != 0;
    }

    private static boolean isRest(int chain, int pair) {
        boolean shaved = shavesIn(pair);
        boolean read = readIn(pair);
        return gain(chain, shaved, read, false) >= gain(chain, !shaved, read, false)
                && gain(chain, shaved, read, true) >= gain(chain, shaved, !read, true);
    }

    /** What a text told: nothing in it changes by what is done later. */
    private static final class City {
        private static final long[] SETS_WITH = {
            0xAAAAAAAAAAAAAAAAL, 0xCCCCCCCCCCCCCCCCL, 0xF0F0F0F0F0F0F0F0L,
            0xFF00FF00FF00FF00L, 0xFFFF0000FFFF0000L, 0xFFFFFFFF00000000L};

        private int blur;
        private int slips;
        private int rain;
        private int men;
        private int deeds;
        private int clauses;
        private int unsure;
        private int dids;
        private final int[] form = new int[CLAUSE_ROOM];
        private final int[] first = new int[CLAUSE_ROOM];
        private final int[] second = new int[CLAUSE_ROOM];
        private final int[] man = new int[CLAUSE_ROOM];
        private final int[] ink = new int[CLAUSE_ROOM];
        private final long[] straightSets = new long[CLAUSE_ROOM];
        private final long[] turnedSets = new long[CLAUSE_ROOM];
        private final int[] unsureClause = new int[UNSURE_ROOM];
        private final int[] didMan = new int[DID_ROOM];
        private final int[] didDay = new int[DID_ROOM];
        private final int[] didSet = new int[DID_ROOM];
        private final boolean[] didKept = new boolean[DID_ROOM];

        private void clear() {
            blur = 0;
            slips = 0;
            rain = 0;
            men = 0;
            deeds = 0;
            clauses = 0;
            unsure = 0;
            dids = 0;
        }

        private void addClause(int formTold, int deed, int otherDeed, int onMan, int inkTold) {
            if (clauses < CLAUSE_ROOM) {
                form[clauses] = formTold;
                first[clauses] = deed;
                second[clauses] = otherDeed;
                man[clauses] = onMan;
                ink[clauses] = inkTold;
                straightSets[clauses] = straightOf(formTold, setsWith(deed), setsWith(otherDeed));
                turnedSets[clauses] = turnedOf(formTold, setsWith(deed), setsWith(otherDeed));
                clauses++;
            }
        }

        private void addUnsure(int c) {
            if (unsure < UNSURE_ROOM) {
                unsureClause[unsure] = c;
                unsure++;
            }
        }

        private void addDid(int byMan, int onDay, boolean kept, int set) {
            if (dids < DID_ROOM) {
                didMan[dids] = byMan;
                didDay[dids] = onDay;
                didKept[dids] = kept;
                didSet[dids] = set;
                dids++;
            }
        }

        private int unsureBits() {
            return turnedBy((1 << unsure) - 1);
        }

        /** The bits of clauses for bits of unsure ones, which are numbered as told. */
        private int turnedBy(int unsureSet) {
            int bits = 0;
            for (int k = 0; k < unsure; k++) {
                if (isIn(unsureSet, k)) {
                    bits |= 1 << unsureClause[k];
                }
            }
            return bits;
        }

        private boolean isToldTruly(int did, Page opening, int turned) {
            if (did < 0 || did >= dids) {
                return false;
            }
            int binding = opening.binding(didDay[did]) & opening.pressedOn(didMan[did]);
            return didKept[did] == isIn(setsKeeping(binding, turned), didSet[did]);
        }

        private static long setsWith(int deed) {
            return deed >= 0 && deed < SETS_WITH.length ? SETS_WITH[deed] : 0;
        }

        private long allSets() {
            // a long holds 64 sets just full, where the shift would come round to 0
            return deeds >= DEED_ROOM ? -1L : (1L << (1 << deeds)) - 1;
        }

        private long setsKeeping(int clauseBits, int turned) {
            long sets = allSets();
            for (int c = 0; c < clauses && c < CLAUSE_ROOM; c++) {
                if (isIn(clauseBits, c)) {
                    sets &= isIn(turned, c) ? turnedSets[c] : straightSets[c];
                }
            }
            return sets;
        }

        /** The sets that keep a form, by the sets that have its deeds. */
        private static long straightOf(int form, long a, long b) {
            switch (form) {
                case MUST: return a;
                case MUSTNT: return ~a;
                case IF: return b | ~a;
                case UNLESS: return a | b;
                case NOTBOTH: return ~(a & b);
                default: return a ^ b;
            }
        }

        private static long turnedOf(int form, long a, long b) {
            switch (form) {
                case MUST: return straightOf(MUSTNT, a, b);
                case MUSTNT: return straightOf(MUST, a, b);
                case IF: return straightOf(IF, b, a);
                case UNLESS: return straightOf(NOTBOTH, a, b);
                case NOTBOTH: return straightOf(UNLESS, a, b);
                default: return ~straightOf(EITHER, a, b);
            }
        }
    }

    /** What acts change: each clause's man and INK, which are TURNED, and the days gone by. */
    private static final class Page {
        private final int[] ink = new int[CLAUSE_ROOM];
        private final int[] man = new int[CLAUSE_ROOM];
        private int turned;
        private int days;

        private void clear() {
            // a clause that is not pressed yet is on nobody, so that nothing blurs it
            for (int c = 0; c < CLAUSE_ROOM; c++) {
                ink[c] = 0;
                man[c] = NONE;
            }
            turned = 0;
            days = 0;
        }

        private void becomes(Page other) {
            for (int c = 0; c < CLAUSE_ROOM; c++) {
                ink[c] = other.ink[c];
                man[c] = other.man[c];
            }
            turned = other.turned;
            days = other.days;
        }

        private int binding(int daysAhead) {
            int bits = 0;
            for (int c = 0; c < CLAUSE_ROOM; c++) {
                if (ink[c] > daysAhead) {
                    bits |= 1 << c;
                }
            }
            return bits;
        }

        private int pressedOn(int m) {
            int bits = 0;
            for (int c = 0; c < CLAUSE_ROOM; c++) {
                if (man[c] == m) {
                    bits |= 1 << c;
                }
            }
            return bits;
        }

        private int inkOf(int clauseBits) {
            int sum = 0;
            for (int c = 0; c < CLAUSE_ROOM; c++) {
                if (isIn(clauseBits, c)) {
                    sum += ink[c];
                }
            }
            return sum;
        }

        /** Presses a clause: the bits of others that BIND no more by it. */
        private int pressOn(int clause, int m, int inkTold, int blur) {
            if (clause < 0 || clause >= CLAUSE_ROOM) {
                return 0;
            }
            int before = binding(0);
            for (int c = 0; c < CLAUSE_ROOM; c++) {
                if (c != clause && man[c] == m) {
                    ink[c] = Math.max(0, ink[c] - blur);
                }
            }
            int lost = before & ~binding(0);
            man[clause] = m;
            ink[clause] = inkTold;
            return lost;
        }

        /** Lets a day go by: the bits of clauses that BIND no more by it. */
        private int passDay() {
            int before = binding(0);
            for (int c = 0; c < CLAUSE_ROOM; c++) {
                ink[c] = Math.max(0, ink[c] - 1);
            }
            days++;
            return before & ~binding(0);
        }

        /** Lets a day go by and draws for each clause that BINDS then: the SEED behind it. */
        private int passRainyDay(int rain, int seed) {
            passDay();
            int drawn = seed;
            for (int c = 0; c < CLAUSE_ROOM; c++) {
                if (ink[c] > 0) {
                    drawn = (75 * drawn + 74) % SEEDS;
                    if (drawn % HUNDRED < rain) {
                        ink[c] = 0;
                    }
                }
            }
            return drawn;
        }
    }

    /** The pages ahead of the latest acts, in a ring, and the images. */
    private static final class Past {
        private final Page[] actPages = new Page[ACT_ROOM];
        private final Page[] imagePages = new Page[IMAGE_ROOM];
        private int oldest;
        private int acts;
        private int images;

        private Past() {
            for (int i = 0; i < ACT_ROOM; i++) {
                actPages[i] = new Page();
            }
            for (int i = 0; i < IMAGE_ROOM; i++) {
                imagePages[i] = new Page();
            }
        }

        private void forget() {
            acts = 0;
            images = 0;
        }

        private void keepAct(Page now) {
            actPages[(oldest + acts) % ACT_ROOM].becomes(now);
            if (acts < ACT_ROOM) {
                acts++;
            } else {
                oldest = (oldest + 1) % ACT_ROOM;
            }
        }

        private boolean undoInto(Page now) {
            if (acts == 0) {
                return false;
            }
            acts--;
            now.becomes(actPages[(oldest + acts) % ACT_ROOM]);
            return true;
        }

        private int keepImage(Page now) {
            if (images >= IMAGE_ROOM) {
                return NONE;
            }
            imagePages[images].becomes(now);
            images++;
            return images - 1;
        }

        private boolean goBackInto(Page now, int image) {
            if (image < 0 || image >= images) {
                return false;
            }
            now.becomes(imagePages[image]);
            acts = 0;
            return true;
        }
    }

    /** How likely each set of unsure clauses TURNED makes what was told; it stays as long as the CITY. */
    private static final class Fits {
        private final long[] weight = new long[1 << UNSURE_ROOM];

        private void weigh(City city, Page opening) {
            for (int set = 0; set < weight.length; set++) {
                weight[set] = set < 1 << city.unsure ? weightOf(city, opening, city.turnedBy(set)) : 0;
            }
        }

        private static long weightOf(City city, Page opening, int turned) {
            long product = 1;
            for (int i = 0; i < city.dids; i++) {
                product *= city.isToldTruly(i, opening, turned) ? HUNDRED - city.slips : city.slips;
            }
            return product;
        }

        /** The sets that FIT, as bits. */
        private long fitting() {
            long bits = 0;
            for (int set = 0; set < weight.length; set++) {
                if (weight[set] > 0) {
                    bits |= 1L << set;
                }
            }
            return bits;
        }

        private long weightWith(int turned) {
            long sum = 0;
            for (int set = 0; set < weight.length; set++) {
                if ((set & turned) == turned) {
                    sum += weight[set];
                }
            }
            return sum;
        }

        private int likeliestSet() {
            int best = NOTHING;
            long most = 0;
            for (int set = 0; set < weight.length; set++) {
                if (weight[set] > most) {
                    most = weight[set];
                    best = set;
                }
            }
            return best;
        }

        private int leftAtMost(int k) {
            int with = 0;
            int without = 0;
            for (int set = 0; set < weight.length; set++) {
                if (weight[set] > 0 && isIn(set, k)) {
                    with++;
                } else if (weight[set] > 0) {
                    without++;
                }
            }
            return Math.max(with, without);
        }
    }

    /** Looks for the first row of men, clause by clause, by as few men as can keep what BINDS. */
    private static final class Spread {
        private final int[] row = new int[CLAUSE_ROOM];
        private final long[] setsLeft = new long[CLAUSE_ROOM];

        private int fewestMen(City city, Page now) {
            int most = Integer.bitCount(now.binding(0));
            for (int men = 0; men < most; men++) {
                if (goesOn(city, now, 0, 0, men)) {
                    return men;
                }
            }
            // a clause alone can always be kept, so a man for each is enough
            goesOn(city, now, 0, 0, most);
            return most;
        }

        private boolean goesOn(City city, Page now, int c, int used, int men) {
            if (c < 0 || c >= CLAUSE_ROOM) {
                return true;
            }
            if (now.ink[c] == 0) {
                row[c] = NOTHING;
                return goesOn(city, now, c + 1, used, men);
            }
            long ofClause = city.setsKeeping(1 << c, now.turned);
            // men not used yet are all alike, so only the first of them is tried
            for (int m = 0; m <= used && m < men && m < CLAUSE_ROOM; m++) {
                long before = m < used ? setsLeft[m] : -1L;
                if ((before & ofClause) != 0) {
                    row[c] = m;
                    setsLeft[m] = before & ofClause;
                    if (goesOn(city, now, c + 1, Math.max(used, m + 1), men)) {
                        return true;
                    }
                    setsLeft[m] = before;
                }
            }
            return false;
        }
    }

    /** Has THE TAPE, and reads its text from the left up to the first FAULT. */
    private static final class Reader {
        private static final int FORM = 1;
        private static final int UNTOLD = 2;
        private static final int AGAIN = 3;
        private static final int BOUNDS = 4;
        private static final int MANY = 5;
        private static final int LACKS = 6;

        private static final int END = 0;
        private static final int WORD = 1;
        private static final int WHOLE = 2;
        private static final int SEMICOLON = 3;
        private static final int COMMA = 4;
        private static final int NO_TOKEN = 5;

        private static final int CITY = 0;
        private static final int MAN = 1;
        private static final int DEED = 2;
        private static final int CLAUSE = 3;
        private static final int UNSURE = 4;
        private static final int DID = 5;

        private static final int MOST_LETTERS = 8;
        private static final int MOST_DIGITS = 3;
        private static final int MOST_BLUR = 9;
        private static final int MOST_INK = 40;
        private static final int MOST_DAY = 40;

        private final byte[] tape = new byte[TAPE_ROOM];
        private int fed;
        private final long[] keywords;
        private City city;
        private int end;
        private int kind;
        private int place;
        private int next;
        private long value;
        private boolean headRead;
        private final long[] names = new long[NAME_ROOM];
        private final int[] nameSort = new int[NAME_ROOM];
        private final int[] nameNumber = new int[NAME_ROOM];
        private int nameCount;
        private int fault;
        private int faultPlace;

        private Reader() {
            // in the order of CITY to DID, so that a place in the row is a sort of line
            keywords = new long[] {
                packed("city"), packed("man"), packed("deed"), packed("clause"), packed("unsure"), packed("did")};
            city = new City();
        }

        private void takeFour(int number) {
            for (int shift = 24; shift >= 0; shift -= 8) {
                if (fed < TAPE_ROOM) {
                    tape[fed] = (byte) (number >>> shift);
                    fed++;
                }
            }
        }

        private City handOver(City old) {
            City read = city;
            city = old;
            return read;
        }

        private boolean readCity(int n) {
            city.clear();
            end = Math.min(n, fed);
            fed = 0;
            next = 0;
            nameCount = 0;
            headRead = false;
            fault = 0;
            faultPlace = NONE;
            advance();
            for (int line = 0; line <= TAPE_ROOM; line++) {
                if (!readLine()) {
                    return false;
                }
                if (kind == END) {
                    return city.men > 0 && city.deeds > 0 || fails(LACKS);
                }
                if (!passes(kind == SEMICOLON)) {
                    return false;
                }
            }
            return fails(FORM);
        }

        private boolean fails(int number) {
            fault = number;
            faultPlace = place;
            return false;
        }

        // ---- tokens

        private void advance() {
            while (next < end && tape[next] == ' ') {
                next++;
            }
            place = next;
            if (place >= end) {
                kind = END;
                return;
            }
            int here = tape[place];
            if (here >= 'a' && here <= 'z') {
                // a is 1, so that words of unlike lengths have unlike values
                kind = takeRun('a', 'z', 27, 1) <= MOST_LETTERS ? WORD : NO_TOKEN;
            } else if (here >= '0' && here <= '9') {
                kind = takeRun('0', '9', 10, 0) <= MOST_DIGITS ? WHOLE : NO_TOKEN;
            } else {
                kind = here == ';' ? SEMICOLON : here == ',' ? COMMA : NO_TOKEN;
                next++;
            }
        }

        /** Takes all bytes of a sort that stand together, as one number: how many they are. */
        private int takeRun(int lowest, int highest, int base, int ofLowest) {
            value = 0;
            while (next < end && tape[next] >= lowest && tape[next] <= highest) {
                value = value * base + (tape[next] - lowest + ofLowest);
                next++;
            }
            return next - place;
        }

        private static long packed(String text) {
            long number = 0;
            for (int i = 0; i < text.length(); i++) {
                number = number * 27 + (text.charAt(i) - 'a' + 1);
            }
            return number;
        }

        private boolean stands(String text) {
            return kind == WORD && value == packed(text);
        }

        // ---- what may stand here: each goes on behind it, or fails at it

        private boolean passes(boolean isRight) {
            if (!isRight) {
                return fails(FORM);
            }
            advance();
            return true;
        }

        private boolean passesWord(String text) {
            return passes(stands(text));
        }

        private int passWhole(int least, int most) {
            if (kind != WHOLE) {
                fails(FORM);
                return NONE;
            }
            if (value < least || value > most) {
                fails(BOUNDS);
                return NONE;
            }
            int whole = (int) value;
            advance();
            return whole;
        }

        private boolean isName() {
            return kind == WORD && lineSort() == NONE;
        }

        private int nameHere() {
            for (int i = 0; i < nameCount && i < NAME_ROOM; i++) {
                if (names[i] == value) {
                    return i;
                }
            }
            return NONE;
        }

        private boolean tellsName(int sort, int number) {
            if (!isName()) {
                return fails(FORM);
            }
            if (nameHere() != NONE || nameCount >= NAME_ROOM) {
                return fails(AGAIN);
            }
            names[nameCount] = value;
            nameSort[nameCount] = sort;
            nameNumber[nameCount] = number;
            nameCount++;
            advance();
            return true;
        }

        /** The number of a NAME of some sort that is none of those used already. */
        private int passName(int sort, int usedBits) {
            if (!isName()) {
                fails(FORM);
                return NONE;
            }
            int i = nameHere();
            if (i < 0 || i >= NAME_ROOM || nameSort[i] != sort) {
                fails(UNTOLD);
                return NONE;
            }
            if (isIn(usedBits, nameNumber[i])) {
                fails(AGAIN);
                return NONE;
            }
            advance();
            return nameNumber[i];
        }

        // ---- lines

        private int lineSort() {
            for (int sort = 0; sort < keywords.length; sort++) {
                if (kind == WORD && value == keywords[sort]) {
                    return sort;
                }
            }
            return NONE;
        }

        private boolean isFull(int sort) {
            switch (sort) {
                case MAN: return city.men >= MAN_ROOM;
                case DEED: return city.deeds >= DEED_ROOM;
                case CLAUSE: return city.clauses >= CLAUSE_ROOM;
                case UNSURE: return city.unsure >= UNSURE_ROOM;
                default: return city.dids >= DID_ROOM;
            }
        }

        private boolean readLine() {
            int sort = lineSort();
            if (sort == NONE) {
                return fails(FORM);
            }
            if (sort == CITY && headRead) {
                return fails(AGAIN);
            }
            if (sort != CITY && !headRead) {
                return fails(LACKS);
            }
            if (sort != CITY && isFull(sort)) {
                return fails(MANY);
            }
            advance();
            switch (sort) {
                case CITY: return readHead();
                case MAN: return readMan();
                case DEED: return readDeed();
                case CLAUSE: return readClause();
                case UNSURE: return readUnsure();
                default: return readDid();
            }
        }

        private boolean readHead() {
            headRead = true;
            city.blur = passesWord("blur") ? passWhole(0, MOST_BLUR) : NONE;
            if (city.blur == NONE) {
                return false;
            }
            city.slips = passesWord("slips") ? passWhole(0, HUNDRED) : NONE;
            if (city.slips == NONE) {
                return false;
            }
            city.rain = passesWord("rain") ? passWhole(0, HUNDRED) : NONE;
            return city.rain != NONE;
        }

        private boolean readMan() {
            if (!tellsName(MAN, city.men)) {
                return false;
            }
            city.men++;
            return true;
        }

        private boolean readDeed() {
            if (!tellsName(DEED, city.deeds)) {
                return false;
            }
            city.deeds++;
            return true;
        }

        private boolean readClause() {
            if (!tellsName(CLAUSE, city.clauses)) {
                return false;
            }
            int man = passesWord("on") ? passName(MAN, 0) : NONE;
            if (man == NONE) {
                return false;
            }
            int ink = passesWord("ink") ? passWhole(1, MOST_INK) : NONE;
            if (ink == NONE) {
                return false;
            }
            int form = formHere();
            int deed = passes(form != NONE) ? passName(DEED, 0) : NONE;
            if (deed == NONE) {
                return false;
            }
            boolean ofOne = form == MUST || form == MUSTNT;
            int otherDeed = ofOne ? NOTHING : passName(DEED, 1 << deed);
            if (otherDeed == NONE) {
                return false;
            }
            city.addClause(form, deed, otherDeed, man, ink);
            return true;
        }

        private int formHere() {
            if (stands("must")) {
                return MUST;
            }
            if (stands("mustnt")) {
                return MUSTNT;
            }
            if (stands("if")) {
                return IF;
            }
            if (stands("unless")) {
                return UNLESS;
            }
            if (stands("notboth")) {
                return NOTBOTH;
            }
            return stands("either") ? EITHER : NONE;
        }

        private boolean readUnsure() {
            int clause = passName(CLAUSE, city.unsureBits());
            if (clause == NONE) {
                return false;
            }
            city.addUnsure(clause);
            return true;
        }

        private boolean readDid() {
            int man = passName(MAN, 0);
            if (man == NONE) {
                return false;
            }
            int day = passesWord("day") ? passWhole(0, MOST_DAY) : NONE;
            if (day == NONE) {
                return false;
            }
            boolean kept = stands("kept");
            if (!passes(kept || stands("breach"))) {
                return false;
            }
            int set = 0;
            boolean more = kind != END && kind != SEMICOLON;
            for (int i = 0; more && i <= DEED_ROOM; i++) {
                int deed = passName(DEED, set);
                if (deed == NONE) {
                    return false;
                }
                set |= 1 << deed;
                more = kind == COMMA;
                if (more) {
                    advance();
                }
            }
            city.addDid(man, day, kept, set);
            return true;
        }
    }
}
