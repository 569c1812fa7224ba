/** Term III and promises 32 to 46 (FITS, merchant and clause, RAIN): each bound or refusal by a test of its own. */
public final class OddsEdgesTest {
    private static final String BARE = "city blur 0 slips 0 rain 0;man p;deed a";

    private static final Due DUE = new Due();

    private OddsEdgesTest() {
    }

    /** A city of p and q, a and b, without blur or rain. */
    private static CheekClause done(int slips, String... lines) {
        return DUE.told(Due.city(0, slips, 0, "man p;man q;deed a;deed b;" + String.join(";", lines)));
    }

    private static void odds(CheekClause x, int k, long upper, long lower) {
        DUE.answers(x, "odds(" + k + "), upper", upper, () -> x.odds(k, false));
        DUE.answers(x, "odds(" + k + "), lower", lower, () -> x.odds(k, true));
    }

    private static void fitting(CheekClause x, int... sets) {
        DUE.answers(x, "fits()", sets.length, () -> x.fits());
        for (int i = 0; i < sets.length; i++) {
            int asked = i;
            DUE.answers(x, "fitAt(" + i + ")", sets[i], () -> x.fitAt(asked));
        }
        DUE.refusesEach(x, "fitAt(i)", 1, Due.not(sets.length), (y, i) -> y.fitAt(i));
    }

    // ---- FITS

    private static void fitsWithoutSlips() {
        DUE.about("III: FITS: by which all that was done can have been told so: kept, if he MAY do just those deeds");
        fitting(done(0, "clause r on p ink 9 must a;unsure r;did p day 0 kept a"), 0);
        fitting(done(0, "clause r on p ink 9 must a;unsure r;did p day 0 breach a"), 1);
        fitting(done(0, "clause r on p ink 9 must a;unsure r;did p day 0 kept"), 1);
        fitting(done(0, "clause r on p ink 9 must a;unsure r;did p day 0 breach"), 0);
        fitting(done(0, "clause r on p ink 9 must a;unsure r;did p day 0 kept b,a"), 0);
        fitting(done(0, "clause r on p ink 9 must a;unsure r;did q day 0 kept"), 0, 1);
        fitting(done(0, "clause r on p ink 9 must a;unsure r;did q day 0 breach"));
        fitting(done(0, "clause r on p ink 9 must a;unsure r;did p day 0 kept a;did p day 0 kept"));
        fitting(done(0, "clause r on p ink 9 must a;unsure r"), 0, 1);
        fitting(done(0, "clause r on p ink 9 must a;clause s on p ink 9 must b;unsure r;did p day 0 kept a"));
        fitting(done(0, "clause r on p ink 9 must a;did p day 0 kept a"), 0);
        fitting(done(0, "clause r on p ink 9 must a;did p day 0 kept"));
    }

    private static void fitsByBitsAsTold() {
        DUE.about("33: The i-th, by bits of unsure clauses as told");
        fitting(done(0, "clause r on p ink 9 must a;clause s on p ink 9 must b;unsure s;unsure r;did p day 0 kept b"), 2);
        fitting(done(0, "clause r on p ink 9 must a;clause s on p ink 9 must b;unsure r;unsure s;did p day 0 kept b"), 1);
        fitting(done(0, "clause r on p ink 9 must a;clause s on p ink 9 must a;unsure r;unsure s;"
                + "did p day 0 breach a;did p day 0 breach"), 1, 2);
    }

    private static void fitsByDays() {
        DUE.about("III: FITS: on that day; days counted from the first one on");
        String two = "clause r on p ink 2 must a;unsure r;";
        fitting(done(0, two + "did p day 1 kept"), 1);
        fitting(done(0, two + "did p day 2 kept"), 0, 1);
        fitting(done(0, two + "did p day 2 breach"));
        fitting(done(0, two + "did p day 40 kept b"), 0, 1);
        String forty = "clause r on p ink 40 must a;unsure r;";
        fitting(done(0, forty + "did p day 39 kept"), 1);
        fitting(done(0, forty + "did p day 40 kept"), 0, 1);
        DUE.about("III: FITS: as told at first, with what was blurred then");
        String blurred = "man p;deed a;clause r on p ink 5 must a;clause s on p ink 1 must a;unsure r;";
        fitting(DUE.told(Due.city(4, 0, 0, blurred + "did p day 1 kept")), 0, 1);
        fitting(DUE.told(Due.city(3, 0, 0, blurred + "did p day 1 kept")), 1);
    }

    private static void fitsWhateverIsDone() {
        DUE.about("III: FITS: as told at first, nothing else done");
        CheekClause x = done(0, "clause r on p ink 9 must a;clause s on p ink 9 must b;unsure r;did p day 0 kept b");
        x.turn(0);
        x.turn(1);
        x.wash(1);
        x.press(0, 1);
        for (int i = 0; i < 12; i++) {
            x.day();
        }
        fitting(x, 1);
        odds(x, 0, 1, 1);
        DUE.answers(x, "likeliest()", 1, () -> x.likeliest());
        DUE.answers(x, "judge()", 0, () -> x.judge());
        DUE.answers(x, "ask()", 0, () -> x.ask());
        DUE.answers(x, "askLeaves()", 1, () -> x.askLeaves());
    }

    private static void fitsWithSlips() {
        DUE.about("III: it is told wrongly by slips, as likely as told");
        String told = "clause r on p ink 9 must a;unsure r;did p day 0 kept a";
        fitting(done(0, told), 0);
        fitting(done(1, told), 0, 1);
        fitting(done(99, told), 0, 1);
        fitting(done(100, told), 1);
        fitting(done(100, told + ";did p day 0 kept b"));
        StringBuilder five = new StringBuilder();
        for (char c = 'a'; c < 'f'; c++) {
            five.append("clause x").append(c).append(" on p ink 9 must a;");
        }
        for (char c = 'a'; c < 'f'; c++) {
            five.append("unsure x").append(c).append(';');
        }
        CheekClause x = done(50, five + "did p day 0 kept");
        DUE.answers(x, "all sets of five", 32, () -> x.fits());
        for (int i = 0; i < 32; i++) {
            DUE.is("fitAt(" + i + ")", x.fitAt(i), i);
        }
        DUE.refuses(x, "fitAt(32)", 1, () -> x.fitAt(32));
        odds(x, 4, 1, 2);
        // only all five turned lets him do nothing: 99 of 100 then, 1 of 100 by each of 31 others, 15 of them with it;
        // 114 by 130
        CheekClause z = done(1, five + "did p day 0 kept");
        for (int k = 0; k < 5; k++) {
            odds(z, k, 57, 65);
        }
        DUE.answers(z, "likeliest()", 31, () -> z.likeliest());
        DUE.refuses(z, "odds(5)", 1, () -> z.odds(5, true));
    }

    private static void fitsRefused() {
        CheekClause none = new CheekClause();
        DUE.about("32: NONE: 1 (no CITY)");
        DUE.refuses(none, "fits()", 1, () -> none.fits());
        DUE.about("33: NONE: 1 (i, too)");
        DUE.refusesWithoutCity("fitAt", -1, (y, i) -> y.fitAt(i));
        DUE.about("34: -1: 1");
        DUE.refusesWithoutCity("odds, upper", -1, (y, k) -> y.odds(k, false));
        DUE.refusesWithoutCity("odds, lower", -1, (y, k) -> y.odds(k, true));
        CheekClause two = done(5, "clause r on p ink 9 must a;clause s on p ink 9 must a;clause t on p ink 9 must a;unsure t;unsure s");
        DUE.refusesEach(two, "odds(k), upper", 1, Due.not(2), (y, k) -> y.odds(k, false));
        DUE.refusesEach(two, "odds(k), lower", 1, Due.not(2), (y, k) -> y.odds(k, true));
        CheekClause bare = DUE.told(BARE);
        DUE.refusesEach(bare, "odds(k) of none", 1, Due.not(0), (y, k) -> y.odds(k, true));
        DUE.about("35 to 38: NONE: 1 (no CITY)");
        DUE.refuses(none, "likeliest()", 1, () -> none.likeliest());
        DUE.refuses(none, "ask()", 1, () -> none.ask());
        DUE.refuses(none, "askLeaves()", 1, () -> none.askLeaves());
        DUE.refuses(none, "judge()", 1, () -> none.judge());
    }

    private static void oddsInLowestTerms() {
        DUE.about("34: How likely the k-th unsure clause is TURNED, the upper WHOLE or the lower, in lowest terms");
        String base = "clause r on p ink 9 must a;unsure r";
        odds(done(10, base), 0, 1, 2);
        odds(done(10, base + ";did p day 0 kept a"), 0, 1, 10);
        odds(done(10, base + ";did p day 0 kept a;did p day 0 kept a,b"), 0, 1, 82);
        odds(done(10, base + ";did p day 0 kept a;did p day 0 breach a"), 0, 1, 2);
        odds(done(75, base + ";did p day 0 kept a"), 0, 3, 4);
        String six = ";did p day 0 kept a".repeat(6);
        odds(done(1, base + six), 0, 1, 941480149402L);
        odds(done(99, base + six), 0, 941480149401L, 941480149402L);
        odds(done(50, base + six), 0, 1, 2);
        odds(done(100, base + six), 0, 1, 1);
        DUE.about("34: the k-th as told");
        CheekClause two = done(10, "clause r on p ink 9 must a;clause s on q ink 9 must a;unsure s;unsure r;did p day 0 kept a;did q day 0 kept");
        odds(two, 0, 9, 10);
        odds(two, 1, 1, 10);
        DUE.about("34: (0 by 1; also without FITS)");
        odds(done(0, base + ";did p day 0 kept a"), 0, 0, 1);
        odds(done(0, base + ";did p day 0 kept a;did p day 0 kept"), 0, 0, 1);
        odds(done(100, base + ";did p day 0 kept a;did p day 0 kept"), 0, 0, 1);
    }

    private static void likeliest() {
        DUE.about("35: The likeliest set, the first such");
        CheekClause all = done(10, "clause r on p ink 9 must a;clause s on q ink 9 must a;unsure r;unsure s");
        DUE.answers(all, "all alike", 0, () -> all.likeliest());
        CheekClause last = done(10, "clause r on p ink 9 must a;clause s on q ink 9 must a;unsure r;unsure s;did p day 0 kept;did q day 0 kept");
        DUE.answers(last, "the last", 3, () -> last.likeliest());
        CheekClause like = done(10, "clause r on p ink 9 must a;clause s on p ink 9 must a;unsure r;unsure s;"
                + "did p day 0 breach a;did p day 0 breach");
        DUE.answers(like, "1 and 2 alike", 1, () -> like.likeliest());
        CheekClause wrong = done(90, "clause r on p ink 9 must a;unsure r;did p day 0 kept a");
        DUE.answers(wrong, "told wrongly nine times of ten", 1, () -> wrong.likeliest());
        DUE.about("35: -2 no FITS");
        CheekClause none = done(0, "clause r on p ink 9 must a;unsure r;did p day 0 kept a;did p day 0 kept");
        DUE.answers(none, "no FITS", -2, () -> none.likeliest());
        CheekClause sure = done(0, "clause r on p ink 9 must a;did p day 0 kept");
        DUE.answers(sure, "no FITS, no unsure one", -2, () -> sure.likeliest());
        CheekClause bare = DUE.told(BARE);
        DUE.answers(bare, "nothing told: the empty set", 0, () -> bare.likeliest());
    }

    private static void asked(CheekClause x, int which, int leaves) {
        DUE.answers(x, "ask()", which, () -> x.ask());
        DUE.answers(x, "askLeaves()", leaves, () -> x.askLeaves());
    }

    private static void ask() {
        DUE.about("III: ASK: the unsure clause by which, it being told, at most fewest FITS are left");
        String two = "clause r on p ink 9 must a;clause s on q ink 9 must a;unsure r;unsure s";
        asked(done(0, two + ";did p day 0 kept a"), 1, 1);
        asked(done(0, two + ";did p day 0 kept"), 1, 1);
        asked(done(0, two + ";did q day 0 kept a"), 0, 1);
        asked(done(0, two + ";did p day 0 kept a;did q day 0 kept"), 0, 1);
        DUE.about("III: ASK: the first such");
        asked(done(0, two), 0, 2);
        asked(done(0, "clause r on p ink 9 must a;clause s on p ink 9 must a;unsure r;unsure s;did p day 0 breach a"), 0, 2);
        DUE.about("37: How many are left at most then");
        // by slips all four are FITS still, however unlike their odds
        asked(done(1, two + ";did p day 0 kept a"), 0, 2);
        asked(done(0, "clause r on p ink 9 must a;unsure r;did p day 0 kept a"), 0, 1);
        asked(done(5, "clause r on p ink 9 must a;unsure r"), 0, 1);
        DUE.about("36, 37: -2 no FITS, no unsure one");
        asked(done(0, two + ";did p day 0 kept a;did p day 0 kept"), -2, -2);
        asked(done(0, "clause r on p ink 9 must a"), -2, -2);
        asked(done(0, "clause r on p ink 9 must a;did p day 0 kept"), -2, -2);
        asked(DUE.told(BARE), -2, -2);
    }

    private static void judge() {
        DUE.about("38: The first of what was done, as told, that is told wrongly by clauses as told, none TURNED; -2");
        String base = "clause r on p ink 2 must a;unsure r";
        String[] told = {";did p day 0 kept a", ";did p day 1 breach b", ";did p day 2 kept b", ";did q day 0 kept"};
        String right = base + String.join("", told);
        for (int slips : new int[] {0, 50, 100}) {
            CheekClause all = done(slips, right);
            DUE.answers(all, "all right", -2, () -> all.judge());
            CheekClause first = done(slips, base + ";did p day 0 breach a" + String.join("", told));
            DUE.answers(first, "the first", 0, () -> first.judge());
            CheekClause last = done(slips, right + ";did p day 40 kept;did p day 2 breach");
            DUE.answers(last, "the sixth", 5, () -> last.judge());
            CheekClause two = done(slips, right + ";did p day 1 kept b;did p day 1 kept b");
            DUE.answers(two, "the first of two", 4, () -> two.judge());
            two.turn(0);
            DUE.answers(two, "none TURNED", 4, () -> two.judge());
        }
        CheekClause bare = DUE.told(BARE);
        DUE.answers(bare, "nothing was done", -2, () -> bare.judge());
    }

    // ---- merchant and clause

    private static final int[] NO_CHAIN = {-1, -9, Integer.MIN_VALUE, 10, 11, 100, Integer.MAX_VALUE};

    private static void merchant() {
        CheekClause x = DUE.told(BARE);
        for (int chain : new int[] {0, 1, 5, 9}) {
            DUE.about("39: shaves, read: 0 less chain, 3");
            DUE.answers(x, "his", -chain, () -> x.shaves(chain, true, true, false));
            DUE.answers(x, "its", 3, () -> x.shaves(chain, true, true, true));
            DUE.about("39: shaves, not read: 4, 0");
            DUE.answers(x, "his", 4, () -> x.shaves(chain, true, false, false));
            DUE.answers(x, "its", 0, () -> x.shaves(chain, true, false, true));
            DUE.about("39: not, read: 1, 1");
            DUE.answers(x, "his", 1, () -> x.shaves(chain, false, true, false));
            DUE.answers(x, "its", 1, () -> x.shaves(chain, false, true, true));
            DUE.about("39: neither: 2, 2");
            DUE.answers(x, "his", 2, () -> x.shaves(chain, false, false, false));
            DUE.answers(x, "its", 2, () -> x.shaves(chain, false, false, true));
        }
        DUE.about("39: chain is so much (0 .. 9). -100: 1 (no CITY); 2");
        CheekClause none = new CheekClause();
        for (int chain : NO_CHAIN) {
            DUE.refuses(x, "shaves(" + chain + ")", -100, 2, () -> x.shaves(chain, true, true, true));
            DUE.refuses(none, "shaves(" + chain + ")", -100, 1, () -> none.shaves(chain, false, false, false));
        }
        DUE.refuses(none, "shaves(0)", -100, 1, () -> none.shaves(0, true, true, true));
        DUE.about("40: How many RESTS; 41: -2");
        CheekClause z = DUE.told(BARE);
        for (int chain = 0; chain <= 9; chain++) {
            int asked = chain;
            DUE.answers(z, "rests(" + chain + ")", 0, () -> z.rests(asked));
            DUE.answers(z, "rest(" + chain + ")", -2, () -> z.rest(asked));
        }
        DUE.about("40, 41: NONE: 1 (no CITY); 2");
        DUE.refusesEach(z, "rests", 2, NO_CHAIN, (y, chain) -> y.rests(chain));
        DUE.refusesEach(z, "rest", 2, NO_CHAIN, (y, chain) -> y.rest(chain));
        DUE.refusesWithoutCity("rests", -1, (y, chain) -> y.rests(chain));
        DUE.refusesWithoutCity("rest", -1, (y, chain) -> y.rest(chain));
    }

    // ---- RAIN by chance

    private static void mayOdds(CheekClause x, int m, int set, long upper, long lower) {
        DUE.answers(x, "mayOdds(" + m + ", " + set + "), upper", upper, () -> x.mayOdds(m, set, false));
        DUE.answers(x, "mayOdds(" + m + ", " + set + "), lower", lower, () -> x.mayOdds(m, set, true));
    }

    private static void freeOdds(CheekClause x, int m, long upper, long lower) {
        DUE.answers(x, "freeOdds(" + m + "), upper", upper, () -> x.freeOdds(m, false));
        DUE.answers(x, "freeOdds(" + m + "), lower", lower, () -> x.freeOdds(m, true));
    }

    private static void mean(CheekClause x, int m, long upper, long lower) {
        DUE.answers(x, "mean(" + m + "), upper", upper, () -> x.mean(m, false));
        DUE.answers(x, "mean(" + m + "), lower", lower, () -> x.mean(m, true));
    }

    private static CheekClause rainy(int rain, String... lines) {
        return DUE.told(Due.city(0, 0, rain, "man p;man q;deed a;deed b;" + String.join(";", lines)));
    }

    private static void chanceOfOneSet() {
        String told = "clause r on p ink 9 must a;clause s on p ink 9 must b;clause t on p ink 1 must b;clause u on q ink 9 must a";
        DUE.about("42: How likely one MAY do a set with RAIN, likewise");
        CheekClause x = rainy(20, told);
        mayOdds(x, 0, 3, 1, 1);
        mayOdds(x, 0, 2, 1, 5);
        mayOdds(x, 0, 1, 1, 25);
        mayOdds(x, 0, 0, 1, 125);
        mayOdds(x, 1, 2, 1, 5);
        DUE.about("III: RAIN by chance: each clause that BINDS NOW");
        x.day();
        mayOdds(x, 0, 1, 1, 5);
        x.turn(0);
        mayOdds(x, 0, 1, 1, 25);
        x.wash(0);
        mayOdds(x, 0, 1, 1, 5);
        DUE.about("42: rain of 0 and of 100 in a hundred");
        mayOdds(rainy(0, told), 0, 2, 0, 1);
        mayOdds(rainy(0, told), 0, 3, 1, 1);
        mayOdds(rainy(100, told), 0, 0, 1, 1);
        mayOdds(rainy(1, told), 0, 0, 1, 1000000);
        mayOdds(rainy(99, told), 0, 0, 970299, 1000000);
        mayOdds(DUE.told(BARE), 0, 1, 1, 1);
        CheekClause eight = rainy(99, "clause x# on p ink 9 must a;".repeat(8).transform(OddsEdgesTest::numbered));
        mayOdds(eight, 0, 0, 9227446944279201L, 10000000000000000L);
        mayOdds(eight, 0, 1, 1, 1);
        DUE.about("42: -1: 1; 2");
        CheekClause z = rainy(20, told);
        DUE.refusesEach(z, "mayOdds(m, 0)", 1, Due.not(2), (y, m) -> y.mayOdds(m, 0, false));
        DUE.refusesEach(z, "mayOdds(0, set)", 2, Due.not(4), (y, set) -> y.mayOdds(0, set, true));
        DUE.refusesEach(z, "mayOdds(2, set)", 1, Due.not(4), (y, set) -> y.mayOdds(2, set, true));
        DUE.refusesWithoutCity("mayOdds", -1, (y, m) -> y.mayOdds(m, 0, true));
    }

    /** Puts a, b, .. for each # in its turn, and drops the last sign. */
    private static String numbered(String lines) {
        StringBuilder text = new StringBuilder();
        int count = 0;
        for (char sign : lines.substring(0, lines.length() - 1).toCharArray()) {
            text.append(sign == '#' ? (char) ('a' + count++) : sign);
        }
        return text.toString();
    }

    private static void chanceOfFreedom() {
        String stuck = "clause r on p ink 9 must a;clause s on p ink 1 mustnt a;clause t on q ink 9 must b";
        DUE.about("43: How likely he isn't STUCK then, likewise");
        CheekClause x = rainy(25, stuck);
        freeOdds(x, 0, 7, 16);
        freeOdds(x, 1, 1, 1);
        x.day();
        freeOdds(x, 0, 1, 1);
        freeOdds(rainy(0, stuck), 0, 0, 1);
        freeOdds(rainy(100, stuck), 0, 1, 1);
        freeOdds(rainy(1, stuck), 0, 199, 10000);
        freeOdds(DUE.told(BARE), 0, 1, 1);
        DUE.about("43: -1: 1");
        DUE.refusesEach(x, "freeOdds, upper", 1, Due.not(2), (y, m) -> y.freeOdds(m, false));
        DUE.refusesEach(x, "freeOdds, lower", 1, Due.not(2), (y, m) -> y.freeOdds(m, true));
        DUE.refusesWithoutCity("freeOdds", -1, (y, m) -> y.freeOdds(m, true));

        DUE.about("44: The mean of how many sets he MAY do then, likewise");
        CheekClause z = rainy(25, stuck);
        // one washed off of two: 2 sets each, by 6 of 16; both: 4 sets, by 1 of 16
        mean(z, 0, 1, 1);
        mean(z, 1, 5, 2);
        z.day();
        mean(z, 0, 5, 2);
        mean(rainy(0, stuck), 0, 0, 1);
        mean(rainy(100, stuck), 0, 4, 1);
        mean(DUE.told("city blur 0 slips 0 rain 7;man p;deed a;deed b;deed c;deed d;deed e;deed f"), 0, 64, 1);
        // 32 sets but for one of 100 to the 8th, when it is 64
        String eight = "clause x# on p ink 9 must a;".repeat(8).transform(OddsEdgesTest::numbered);
        mean(DUE.told(Due.city(0, 0, 1, "man p;deed a;deed b;deed c;deed d;deed e;deed f", eight)), 0, 10000000000000001L, 312500000000000L);
        mean(DUE.told(Due.city(0, 0, 100, "man p;deed a;deed b;deed c;deed d;deed e;deed f", eight)), 0, 64, 1);
        DUE.about("44: -1: 1");
        DUE.refusesEach(z, "mean, upper", 1, Due.not(2), (y, m) -> y.mean(m, false));
        DUE.refusesEach(z, "mean, lower", 1, Due.not(2), (y, m) -> y.mean(m, true));
        DUE.refusesWithoutCity("mean", -1, (y, m) -> y.mean(m, true));
        DUE.about("42 to 44: nothing is washed off by it");
        DUE.is("binding", z.man(0, 1), 1);
        DUE.is("size(9)", z.size(9), 1);
    }

    // ---- RAIN by a SEED: from 0 on the draws are 74, 24, 52, 90, 41, 9

    private static void rained(CheekClause x, int seed, int n, int want) {
        DUE.answers(x, "rained(" + seed + ", " + n + ")", want, () -> x.rained(seed, n));
    }

    private static void draws() {
        String two = "clause r on q ink 9 must a;clause s on p ink 9 must a";
        DUE.about("III: below rain it is");
        String one = "clause r on p ink 9 must a";
        rained(rainy(74, one), 0, 1, 1);
        rained(rainy(75, one), 0, 1, 0);
        rained(rainy(0, one), 45438, 8, 1);
        rained(rainy(100, one), 0, 1, 0);
        DUE.about("III: for each clause that BINDS, by numbers, a DRAW mod 100");
        rained(rainy(24, two), 0, 1, 3);
        rained(rainy(25, two), 0, 1, 1);
        rained(rainy(75, two), 0, 1, 0);
        CheekClause washed = rainy(25, two);
        washed.wash(0);
        rained(washed, 0, 1, 2);
        rained(washed, 0, 2, 0);
        DUE.about("III: each day is over first");
        rained(rainy(25, "clause r on p ink 1 must a;clause s on p ink 9 must a"), 0, 1, 2);
        rained(rainy(25, "clause r on p ink 2 must a;clause s on p ink 9 must a"), 0, 1, 1);
        rained(rainy(0, one), 0, 8, 1);
        rained(rainy(0, one), 0, 9, 0);
        DUE.about("III: n days: the SEED goes on from day to day");
        rained(rainy(25, one), 0, 1, 1);
        rained(rainy(25, one), 0, 2, 0);
        rained(rainy(10, one), 0, 5, 1);
        rained(rainy(10, one), 0, 6, 0);
        // 74 spares r, 24 washes s off; then 52, 90 and 41 spare r, which draws alone, and 9 takes it
        rained(rainy(25, two), 0, 4, 1);
        rained(rainy(25, two), 0, 5, 0);
        DUE.about("III: (SEED becomes (75 times SEED and 74) mod 65,537)");
        rained(rainy(12, one), 873, 1, 1);
        rained(rainy(13, one), 873, 1, 0);
        rained(rainy(1, one), 45438, 1, 0);
        rained(rainy(36, one), 65536, 8, 1);
        rained(rainy(37, one), 65536, 1, 0);
        rained(rainy(61, one), 65535, 1, 1);
        rained(rainy(62, one), 65535, 1, 0);
        rained(rainy(49, one), 1, 1, 1);
        rained(rainy(50, one), 1, 1, 0);
    }

    private static void rainedBounds() {
        DUE.about("45: Clauses that BIND behind n days (0 .. 60) of RAIN by a SEED (0 .. 65,536), as bits");
        CheekClause x = rainy(0, "clause r on p ink 40 must a;clause s on q ink 39 must a;clause t on p ink 1 must a");
        rained(x, 0, 0, 7);
        rained(x, 0, 38, 3);
        rained(x, 65536, 39, 1);
        rained(x, 65536, 40, 0);
        rained(x, 65536, 60, 0);
        CheekClause all = rainy(100, "clause r on p ink 40 must a;clause s on q ink 39 must a;clause t on p ink 1 must a");
        rained(all, 5, 0, 7);
        rained(all, 5, 1, 0);
        rained(DUE.told(BARE), 5, 60, 0);
        DUE.about("45: nothing is changed by it");
        DUE.is("size(8)", all.size(8), 0);
        DUE.is("size(9)", all.size(9), 0);
        DUE.is("ink", all.clause(0, 4), 40);
        DUE.about("45: NONE: 1 (no CITY); 2");
        int[] noSeeds = {-1, Integer.MIN_VALUE, 65537, 65538, Integer.MAX_VALUE};
        int[] noDays = {-1, Integer.MIN_VALUE, 61, 62, Integer.MAX_VALUE};
        DUE.refusesEach(x, "rained(seed, 0)", 2, noSeeds, (y, seed) -> y.rained(seed, 0));
        DUE.refusesEach(x, "rained(0, n)", 2, noDays, (y, n) -> y.rained(0, n));
        DUE.refusesWithoutCity("rained(seed, 0)", -1, (y, seed) -> y.rained(seed, 0));
        DUE.refusesWithoutCity("rained(0, n)", -1, (y, n) -> y.rained(0, n));
        DUE.about("46: NONE: 1; 2");
        DUE.refusesEach(x, "freeBy(0, seed, 0)", 2, noSeeds, (y, seed) -> y.freeBy(0, seed, 0));
        DUE.refusesEach(x, "freeBy(0, 0, n)", 2, noDays, (y, n) -> y.freeBy(0, 0, n));
        DUE.refusesEach(x, "freeBy(m, 0, 0)", 1, Due.not(2), (y, m) -> y.freeBy(m, 0, 0));
        DUE.refusesEach(x, "freeBy(2, seed, -1)", 1, noSeeds, (y, seed) -> y.freeBy(2, seed, -1));
        DUE.refusesWithoutCity("freeBy(m, 0, 0)", -1, (y, m) -> y.freeBy(m, 0, 0));
    }

    private static void freeBy(CheekClause x, int m, int n, int want) {
        DUE.answers(x, "freeBy(" + m + ", 0, " + n + ")", want, () -> x.freeBy(m, 0, n));
    }

    private static void freeByBounds() {
        DUE.about("46: Behind how many of them (0 .. n) a man isn't STUCK first; -2");
        String stuck = "clause r on p ink 40 must a;clause s on p ink 40 mustnt a;clause t on q ink 40 must b";
        // 74, 24, 52; 90, 41, 9: s goes the first day by 25; by 10 t the second, and 24 is no more of p's
        CheekClause first = rainy(25, stuck);
        freeBy(first, 0, 0, -2);
        freeBy(first, 0, 1, 1);
        freeBy(first, 0, 60, 1);
        freeBy(first, 1, 0, 0);
        freeBy(first, 1, 60, 0);
        CheekClause second = rainy(42, "clause t on q ink 40 must b;clause r on p ink 40 must a;clause s on q ink 1 must a;clause u on p ink 40 mustnt a");
        // the draws: 74, 24 (below 42, r), 52
        freeBy(second, 0, 0, -2);
        freeBy(second, 0, 1, 1);
        CheekClause dry = rainy(0, stuck);
        freeBy(dry, 0, 39, -2);
        freeBy(dry, 0, 40, 40);
        freeBy(dry, 0, 60, 40);
        CheekClause most = rainy(100, stuck);
        freeBy(most, 0, 0, -2);
        freeBy(most, 0, 1, 1);
        CheekClause later = rainy(10, "clause r on p ink 40 must a;clause s on p ink 40 mustnt a");
        // 74, 24; 52, 90; 41, 9: s goes the third day
        freeBy(later, 0, 2, -2);
        freeBy(later, 0, 3, 3);
        later.turn(1);
        freeBy(later, 0, 2, 0);
        DUE.about("46: from NOW");
        CheekClause now = rainy(0, "clause r on p ink 9 must a;clause s on q ink 9 mustnt a");
        freeBy(now, 0, 60, 0);
        now.press(1, 0);
        now.day();
        freeBy(now, 0, 7, -2);
        freeBy(now, 0, 8, 8);
        freeBy(now, 1, 0, 0);
        DUE.about("46: nothing is changed by it");
        DUE.is("binding", dry.man(0, 1), 3);
        DUE.is("size(8)", dry.size(8), 0);
        DUE.is("size(9)", dry.size(9), 0);
    }

    public static void main(String[] args) {
        fitsWithoutSlips();
        fitsByBitsAsTold();
        fitsByDays();
        fitsWhateverIsDone();
        fitsWithSlips();
        fitsRefused();
        oddsInLowestTerms();
        likeliest();
        ask();
        judge();
        merchant();
        chanceOfOneSet();
        chanceOfFreedom();
        draws();
        rainedBounds();
        freeByBounds();
        DUE.end("OddsEdgesTest");
    }
}
