/** Term III and promises 17 to 31 (bars, frees, SPREAD, days to come): each bound or refusal by a test of its own. */
public final class FreeEdgesTest {
    private static final String BARE = "city blur 0 slips 0 rain 0;man p;deed a";

    private static final Due DUE = new Due();

    private FreeEdgesTest() {
    }

    /** Clauses ca, cb, .. told as "man ink form deeds", over two men and three deeds, without blur. */
    private static CheekClause clauses(String... told) {
        StringBuilder text = new StringBuilder(Due.city(0, 0, 0, "man p;man q;deed a;deed b;deed c"));
        for (int c = 0; c < told.length; c++) {
            String[] words = told[c].split(" ", 3);
            text.append(";clause c").append((char) ('a' + c)).append(" on ").append(words[0])
                    .append(" ink ").append(words[1]).append(' ').append(words[2]);
        }
        return DUE.told(text.toString());
    }

    // ---- promises 17 to 20

    private static void bar() {
        DUE.about("III: BAR of one who is STUCK: the fewest clauses that BIND him which no set KEEPS all");
        CheekClause x = clauses("p 9 must a", "p 9 if a b", "p 9 mustnt b", "p 1 must c", "p 9 mustnt c", "q 9 mustnt a");
        DUE.answers(x, "two above rather than three below", 24, () -> x.bar(0));
        x.day();
        DUE.answers(x, "one of the two binds no more", 7, () -> x.bar(0));
        x.wash(1);
        DUE.about("17: BAR, as bits; -2 he isn't STUCK");
        DUE.answers(x, "what is on the other does not count", -2, () -> x.bar(0));
        DUE.answers(x, "the other", -2, () -> x.bar(1));
        CheekClause bare = DUE.told(BARE);
        DUE.answers(bare, "of one whom nothing BINDS", -2, () -> bare.bar(0));
        DUE.about("III: BAR: of like ones the least bits");
        CheekClause like = clauses("p 9 must a", "p 9 must b", "p 9 mustnt b", "p 9 mustnt a");
        DUE.answers(like, "6 and 9", 6, () -> like.bar(0));
        CheekClause again = clauses("p 9 must a", "p 9 mustnt a", "p 9 mustnt a", "p 9 must a");
        DUE.answers(again, "3, 5, 10 and 12", 3, () -> again.bar(0));
        CheekClause last = clauses("q 9 must a", "q 9 must a", "q 9 must a", "q 9 must a", "q 9 must a", "q 9 must a",
                "p 9 must a", "p 9 mustnt a");
        DUE.answers(last, "the last two of eight", 192, () -> last.bar(0));
        DUE.about("17: NONE: 1");
        DUE.refusesEach(x, "bar", 1, Due.not(2), (y, m) -> y.bar(m));
        DUE.refusesWithoutCity("bar", -1, (y, m) -> y.bar(m));
    }

    private static void free() {
        DUE.about("III: FREE: clauses that BIND him, without which he isn't STUCK: the fewest");
        CheekClause x = clauses("p 2 must a", "p 2 must a", "p 2 must a", "p 40 mustnt a");
        DUE.answers(x, "one dear one above rather than three below", 8, () -> x.free(0));
        DUE.about("III: FREE: of like ones the least bits");
        CheekClause like = clauses("p 9 must a", "p 9 must b", "p 9 mustnt b", "p 9 mustnt a");
        DUE.answers(like, "3, 5, 10 and 12", 3, () -> like.free(0));
        CheekClause two = clauses("q 9 must a", "p 9 must b", "p 1 mustnt b");
        DUE.answers(two, "2 and 4", 2, () -> two.free(0));
        DUE.about("18: (0 if he isn't STUCK)");
        two.day();
        DUE.answers(two, "of one no more STUCK", 0, () -> two.free(0));
        DUE.answers(two, "of one bound by one", 0, () -> two.free(1));
        CheekClause bare = DUE.told(BARE);
        DUE.answers(bare, "of one whom nothing BINDS", 0, () -> bare.free(0));
        CheekClause full = clauses("p 9 must a", "p 9 mustnt a", "p 9 must b", "p 9 mustnt b", "p 9 must c", "p 9 mustnt c",
                "p 9 must c", "p 9 mustnt c");
        DUE.answers(full, "of eight", 1 + 4 + 16 + 64, () -> full.free(0));
        DUE.about("18: NONE: 1");
        DUE.refusesEach(x, "free", 1, Due.not(2), (y, m) -> y.free(m));
        DUE.refusesWithoutCity("free", -1, (y, m) -> y.free(m));
    }

    private static void cheapAndPrice() {
        DUE.about("III: CHEAP: of least INK together");
        CheekClause x = clauses("p 40 mustnt a", "p 3 must a", "p 2 must a", "p 4 must a", "q 1 must a");
        DUE.answers(x, "three cheap ones", 14, () -> x.cheap(0));
        DUE.answers(x, "the fewest is another", 1, () -> x.free(0));
        DUE.about("20: Its INK together");
        DUE.answers(x, "price(0)", 9, () -> x.price(0));
        x.day();
        x.day();
        DUE.answers(x, "INK NOW, not as told: cheap(0)", 10, () -> x.cheap(0));
        DUE.answers(x, "INK NOW, not as told: price(0)", 3, () -> x.price(0));
        CheekClause anew = clauses("p 5 must a", "p 4 mustnt a");
        DUE.answers(anew, "the second has less", 2, () -> anew.cheap(0));
        anew.day();
        anew.day();
        anew.press(1, 0);
        DUE.answers(anew, "pressed anew, it has more", 1, () -> anew.cheap(0));
        DUE.answers(anew, "price NOW", 3, () -> anew.price(0));
        CheekClause faint = clauses("p 5 must a", "p 4 mustnt a");
        faint.day();
        faint.day();
        faint.day();
        DUE.answers(faint, "of 2 and 1 left", 2, () -> faint.cheap(0));
        DUE.answers(faint, "price of the 1", 1, () -> faint.price(0));
        DUE.about("III: CHEAP: of like ones the least bits");
        CheekClause like = clauses("p 2 must a", "p 2 must a", "p 4 mustnt a");
        DUE.answers(like, "3 and 4, alike in INK", 3, () -> like.cheap(0));
        DUE.answers(like, "its price", 4, () -> like.price(0));
        CheekClause turned = clauses("p 4 mustnt a", "p 2 must a", "p 2 must a");
        DUE.answers(turned, "1 and 6, alike in INK", 1, () -> turned.cheap(0));
        CheekClause dear = clauses("p 40 mustnt a", "p 40 must a", "p 40 mustnt b", "p 40 must b", "p 40 mustnt c", "p 40 must c");
        DUE.answers(dear, "of six", 21, () -> dear.cheap(0));
        DUE.answers(dear, "price of three", 120, () -> dear.price(0));
        DUE.about("19, 20: (likewise: 0 if he isn't STUCK)");
        DUE.answers(dear, "cheap of one whom nothing BINDS", 0, () -> dear.cheap(1));
        DUE.answers(dear, "price of one whom nothing BINDS", 0, () -> dear.price(1));
        DUE.answers(x, "cheap of one bound by one", 0, () -> x.cheap(1));
        x.wash(0);
        DUE.answers(x, "cheap of one no more STUCK", 0, () -> x.cheap(0));
        DUE.answers(x, "price of one no more STUCK", 0, () -> x.price(0));
        DUE.about("19, 20: NONE: 1");
        DUE.refusesEach(x, "cheap", 1, Due.not(2), (y, m) -> y.cheap(m));
        DUE.refusesEach(x, "price", 1, Due.not(2), (y, m) -> y.price(m));
        DUE.refusesWithoutCity("cheap", -1, (y, m) -> y.cheap(m));
        DUE.refusesWithoutCity("price", -1, (y, m) -> y.price(m));
    }

    // ---- promises 21 to 23

    private static void idle() {
        DUE.about("21: Clauses that BIND him without each of which, alone, he MAY do just the same sets");
        CheekClause x = clauses("p 9 must a", "p 9 must a", "p 9 unless a b", "p 9 must b", "p 1 if a b", "q 9 must a");
        // must b and if a b say the same besides must a
        DUE.answers(x, "each of two like ones, alone", 31, () -> x.idle(0));
        DUE.answers(x, "one that binds", 0, () -> x.idle(1));
        x.day();
        DUE.answers(x, "one that binds no more", 1 + 2 + 4, () -> x.idle(0));
        x.wash(1);
        DUE.answers(x, "the like one is gone", 4, () -> x.idle(0));
        // as many sets, but others: each of the two says what the other doesn't
        CheekClause others = clauses("p 9 if a b", "p 9 if b a");
        DUE.answers(others, "each takes some sets", 0, () -> others.idle(0));
        DUE.about("21: (none, too, if he is STUCK either way)");
        CheekClause stuck = clauses("p 9 must a", "p 9 mustnt a", "p 9 must b", "p 9 mustnt a");
        DUE.answers(stuck, "STUCK with and without three of them", 2 + 4 + 8, () -> stuck.idle(0));
        DUE.answers(stuck, "nothing BINDS him", 0, () -> stuck.idle(1));
        DUE.about("21: NONE: 1");
        DUE.refusesEach(x, "idle", 1, Due.not(2), (y, m) -> y.idle(m));
        DUE.refusesWithoutCity("idle", -1, (y, m) -> y.idle(m));
    }

    private static void heaviest() {
        DUE.about("22: The clause that BINDS him without which he MAY do most sets, the first such");
        CheekClause x = clauses("q 9 must a", "p 9 unless a b", "p 9 must c", "p 1 mustnt c", "p 9 must c");
        // with all of them he is STUCK; without the fourth he may do three sets, without another none
        DUE.answers(x, "the one that frees", 3, () -> x.heaviest(0));
        x.day();
        DUE.answers(x, "unless: two more sets than the like ones", 1, () -> x.heaviest(0));
        x.wash(1);
        DUE.answers(x, "of two like ones the first", 2, () -> x.heaviest(0));
        x.wash(2);
        DUE.answers(x, "the last one left", 4, () -> x.heaviest(0));
        CheekClause stuck = clauses("q 9 must a", "p 9 must a", "p 9 must a", "p 9 mustnt a", "p 9 mustnt a");
        DUE.answers(stuck, "STUCK without each, none for all: the first", 1, () -> stuck.heaviest(0));
        CheekClause first = clauses("p 9 must a", "p 9 must b");
        DUE.answers(first, "the first of all", 0, () -> first.heaviest(0));
        DUE.about("22: -2 none BINDS");
        x.wash(4);
        DUE.answers(x, "all washed off", -2, () -> x.heaviest(0));
        CheekClause bare = DUE.told(BARE);
        DUE.answers(bare, "none at all", -2, () -> bare.heaviest(0));
        DUE.about("22: NONE: 1");
        DUE.refusesEach(x, "heaviest", 1, Due.not(2), (y, m) -> y.heaviest(m));
        DUE.refusesWithoutCity("heaviest", -1, (y, m) -> y.heaviest(m));
    }

    private static void feared() {
        DUE.about("23: Clauses on other men, BINDING, that on him besides would make him STUCK, each alone, as bits");
        CheekClause x = clauses("p 9 must a", "p 9 mustnt b", "q 9 mustnt a", "q 1 mustnt a", "q 9 if a b", "q 9 must a", "q 9 if a c", "q 9 mustnt c");
        DUE.answers(x, "two and the if; not those that do so together only", 4 + 8 + 16, () -> x.feared(0));
        x.day();
        DUE.answers(x, "one that BINDS no more is not feared", 4 + 16, () -> x.feared(0));
        x.turn(2);
        DUE.answers(x, "turned, it is must a", 16, () -> x.feared(0));
        x.turn(2);
        CheekClause fresh = clauses("q 1 mustnt a", "p 1 must a");
        DUE.answers(fresh, "the first of all, by one with INK 1", 1, () -> fresh.feared(0));
        DUE.answers(fresh, "the other way round", 2, () -> fresh.feared(1));
        CheekClause changed = clauses("p 9 must a", "q 9 mustnt a", "p 9 must b");
        changed.press(0, 1);
        changed.press(1, 0);
        DUE.answers(changed, "on others NOW", 1, () -> changed.feared(0));
        changed.press(2, 1);
        DUE.answers(changed, "what came to the other", 2, () -> changed.feared(1));
        DUE.about("23: (none, if he is STUCK)");
        DUE.answers(x, "the other is STUCK", 0, () -> x.feared(1));
        x.press(2, 0);
        DUE.answers(x, "he is STUCK", 0, () -> x.feared(0));
        DUE.about("23: nobody else, nothing that BINDS him");
        CheekClause alone = DUE.told(BARE + ";clause c on p ink 9 must a");
        DUE.answers(alone, "there is no other man", 0, () -> alone.feared(0));
        CheekClause unbound = clauses("q 9 must a", "p 9 mustnt a");
        unbound.wash(1);
        DUE.answers(unbound, "what binds him no more does not count", 0, () -> unbound.feared(0));
        DUE.answers(unbound, "his own, without INK", 0, () -> unbound.feared(1));
        CheekClause blurs = DUE.told(Due.city(9, 0, 0, "man p;man q;deed a;clause r on p ink 5 must a;clause s on q ink 5 mustnt a"));
        DUE.answers(blurs, "besides: it blurs nothing", 2, () -> blurs.feared(0));
        DUE.about("23: NONE: 1");
        DUE.refusesEach(x, "feared", 1, Due.not(2), (y, m) -> y.feared(m));
        DUE.refusesWithoutCity("feared", -1, (y, m) -> y.feared(m));
    }

    // ---- promises 24 to 26

    private static void row(CheekClause x, int... want) {
        for (int c = 0; c < want.length; c++) {
            int asked = c;
            DUE.answers(x, "spreadAt(" + c + ")", want[c], () -> x.spreadAt(asked));
        }
    }

    private static void spread() {
        DUE.about("III: SPREAD: so that nobody were STUCK by those he has: the fewest men");
        CheekClause one = clauses("p 9 must a", "q 9 must b", "p 9 if a b", "q 9 unless a c");
        DUE.answers(one, "one man keeps all", 1, () -> one.spread());
        row(one, 0, 0, 0, 0);
        CheekClause two = clauses("p 9 must a", "p 9 mustnt a", "p 9 must a", "p 9 mustnt a");
        DUE.answers(two, "two", 2, () -> two.spread());
        row(two, 0, 1, 0, 1);
        DUE.about("III: (of as many as it needs, numbered from 0 on)");
        CheekClause three = DUE.told(Due.city(0, 0, 0, "man p;deed a;deed b;clause ca on p ink 9 mustnt a;clause cb on p ink 9 must a;"
                + "clause cc on p ink 9 mustnt b;clause cd on p ink 9 must b;clause ce on p ink 9 either a b;clause cf on p ink 9 either b a"));
        three.turn(5);
        DUE.answers(three, "three, in a city of one man", 3, () -> three.spread());
        row(three, 0, 1, 0, 1, 2, 0);
        DUE.about("III: SPREAD: of like ones the first row of men, clause by clause, by numbers");
        // must c can go to each of both; if the first has b, the second must be the one without
        CheekClause first = clauses("p 9 must a", "p 9 mustnt a", "p 9 must c", "p 9 if a b", "p 9 mustnt b", "p 9 must b");
        DUE.answers(first, "two", 2, () -> first.spread());
        row(first, 0, 1, 0, 0, 1, 0);
        CheekClause later = clauses("p 9 either a b", "p 9 either a c", "p 9 must a", "p 9 mustnt a", "p 9 either b c", "p 9 must b", "p 9 mustnt c");
        DUE.answers(later, "two", 2, () -> later.spread());
        row(later, 0, 0, 0, 1, 1, 1, 0);
        // mustnt b with mustnt a is the earlier row, but would leave either to a third man
        CheekClause fewest = clauses("p 9 mustnt a", "p 9 must a", "p 9 mustnt b", "p 9 must b", "p 9 either a b");
        DUE.answers(fewest, "the fewest ahead of the first row", 2, () -> fewest.spread());
        row(fewest, 0, 1, 1, 0, 0);
        DUE.about("III: all clauses that BIND NOW");
        CheekClause fading = clauses("p 9 must a", "p 1 mustnt a", "p 9 must b");
        DUE.answers(fading, "ahead of the day", 2, () -> fading.spread());
        row(fading, 0, 1, 0);
        fading.day();
        DUE.answers(fading, "behind the day", 1, () -> fading.spread());
        DUE.about("25: To which one a clause goes, NOW, whether spread() was asked or not");
        CheekClause asked = clauses("p 9 must a", "p 1 mustnt a");
        row(asked, 0, 1);
        asked.wash(0);
        row(asked, -2, 0);
        DUE.answers(asked, "a man for one with INK 1", 1, () -> asked.spread());
        asked.undo();
        row(asked, 0, 1);
        DUE.about("25: -2 it doesn't BIND");
        row(fading, 0, -2, 0);
        fading.wash(0);
        fading.wash(2);
        DUE.about("24: (0 if nothing BINDS)");
        DUE.answers(fading, "all gone", 0, () -> fading.spread());
        row(fading, -2, -2, -2);
        CheekClause bare = DUE.told(BARE);
        DUE.answers(bare, "no clause", 0, () -> bare.spread());
        DUE.about("24: NONE: 1 (no CITY)");
        CheekClause none = new CheekClause();
        DUE.refuses(none, "spread()", 1, () -> none.spread());
        DUE.about("25: NONE: 1");
        DUE.refusesEach(fading, "spreadAt", 1, Due.not(3), (y, c) -> y.spreadAt(c));
        DUE.refusesEach(bare, "spreadAt", 1, Due.not(0), (y, c) -> y.spreadAt(c));
        DUE.refusesWithoutCity("spreadAt", -1, (y, c) -> y.spreadAt(c));
    }

    private static void together() {
        DUE.about("26: The most clauses that BIND NOW which one man could have without being STUCK, as bits");
        CheekClause all = clauses("p 9 must a", "q 9 must b", "p 9 if a b", "q 9 unless a c", "p 9 must c", "p 9 if c a", "q 9 if b c", "q 9 unless a b");
        DUE.answers(all, "all eight, of both men", 255, () -> all.together());
        CheekClause most = clauses("p 9 must a", "p 9 mustnt a", "p 1 mustnt a", "q 9 mustnt a");
        DUE.answers(most, "three above rather than the first", 14, () -> most.together());
        DUE.about("26: of like ones the least");
        most.day();
        most.wash(3);
        DUE.answers(most, "1 and 2", 1, () -> most.together());
        CheekClause like = clauses("p 9 must a", "p 9 mustnt a", "p 9 must b", "p 9 mustnt b");
        DUE.answers(like, "5, 6, 9 and 10", 5, () -> like.together());
        CheekClause gap = clauses("p 9 must a", "p 1 must a", "q 9 mustnt a");
        gap.day();
        DUE.answers(gap, "without the one between that BINDS no more", 1, () -> gap.together());
        DUE.about("26: 0 if nothing BINDS");
        most.wash(0);
        most.wash(1);
        DUE.answers(most, "all gone", 0, () -> most.together());
        CheekClause bare = DUE.told(BARE);
        DUE.answers(bare, "no clause", 0, () -> bare.together());
        DUE.about("26: NONE: 1 (no CITY)");
        CheekClause none = new CheekClause();
        DUE.refuses(none, "together()", 1, () -> none.together());
    }

    // ---- promises 27 to 31

    private static final int[] NOT_AHEAD = {-1, -60, Integer.MIN_VALUE, 61, 62, 100, Integer.MAX_VALUE};

    private static void inkAndWaysIn() {
        CheekClause x = clauses("p 40 must a", "p 1 must b", "q 5 must c");
        DUE.about("27: INK of a clause behind n days (0 .. 60)");
        for (int n : new int[] {0, 1, 2, 39, 40, 41, 60}) {
            DUE.answers(x, "ink(0, " + n + ")", Math.max(0, 40 - n), () -> x.ink(0, n));
            DUE.answers(x, "ink(1, " + n + ")", Math.max(0, 1 - n), () -> x.ink(1, n));
        }
        CheekClause later = clauses("p 9 must a", "q 5 must a");
        later.day();
        later.press(1, 0);
        DUE.answers(later, "from NOW, a day gone by", 5, () -> later.ink(0, 3));
        DUE.answers(later, "from NOW, pressed anew", 2, () -> later.ink(1, 3));
        DUE.about("27: NONE: 1; 2");
        DUE.refusesEach(x, "ink(c, 0)", 1, Due.not(3), (y, c) -> y.ink(c, 0));
        DUE.refusesEach(x, "ink(0, n)", 2, NOT_AHEAD, (y, n) -> y.ink(0, n));
        DUE.refusesEach(x, "ink(3, n)", 1, NOT_AHEAD, (y, n) -> y.ink(3, n));
        DUE.refusesWithoutCity("ink", -1, (y, c) -> y.ink(c, 0));

        CheekClause z = clauses("p 40 must a", "p 1 must b", "q 5 must c");
        DUE.about("28: How many sets a man MAY do behind n days (0 .. 60)");
        int[] days = {0, 1, 39, 40, 60};
        int[] sets = {2, 4, 4, 8, 8};
        for (int i = 0; i < days.length; i++) {
            int n = days[i];
            DUE.answers(z, "waysIn(0, " + n + ")", sets[i], () -> z.waysIn(0, n));
        }
        z.press(1, 1);
        DUE.answers(z, "NOW on the other", 4, () -> z.waysIn(0, 0));
        DUE.answers(z, "the other", 2, () -> z.waysIn(1, 0));
        DUE.about("28: NONE: 1; 2");
        DUE.refusesEach(z, "waysIn(m, 0)", 1, Due.not(2), (y, m) -> y.waysIn(m, 0));
        DUE.refusesEach(z, "waysIn(0, n)", 2, NOT_AHEAD, (y, n) -> y.waysIn(0, n));
        DUE.refusesEach(z, "waysIn(2, n)", 1, NOT_AHEAD, (y, n) -> y.waysIn(2, n));
        DUE.refusesWithoutCity("waysIn", -1, (y, m) -> y.waysIn(m, 0));
        DUE.about("27, 28: no day goes by");
        DUE.is("size(8)", z.size(8), 0);
        DUE.is("ink", z.clause(0, 4), 40);
    }

    private static void freeClearMayIn() {
        CheekClause x = clauses("p 40 must a", "p 40 mustnt a", "p 7 must b", "q 6 must a", "q 1 mustnt a");
        DUE.about("29: Behind how many days (0 .. 60) he isn't STUCK first");
        DUE.answers(x, "freeIn(0)", 40, () -> x.freeIn(0));
        DUE.answers(x, "freeIn(1)", 1, () -> x.freeIn(1));
        x.day();
        DUE.answers(x, "a day nearer", 39, () -> x.freeIn(0));
        DUE.answers(x, "he isn't STUCK NOW", 0, () -> x.freeIn(1));
        DUE.refusesEach(x, "freeIn", 1, Due.not(2), (y, m) -> y.freeIn(m));
        DUE.refusesWithoutCity("freeIn", -1, (y, m) -> y.freeIn(m));
        DUE.about("30: Behind how many days (0 .. 60) nothing BINDS him first");
        DUE.answers(x, "clearIn(0)", 39, () -> x.clearIn(0));
        DUE.answers(x, "clearIn(1)", 5, () -> x.clearIn(1));
        CheekClause bare = DUE.told(BARE);
        DUE.answers(bare, "nothing BINDS NOW", 0, () -> bare.clearIn(0));
        CheekClause most = clauses("p 40 must a");
        DUE.answers(most, "ink 40", 40, () -> most.clearIn(0));
        DUE.refusesEach(x, "clearIn", 1, Due.not(2), (y, m) -> y.clearIn(m));
        DUE.refusesWithoutCity("clearIn", -1, (y, m) -> y.clearIn(m));
        DUE.about("31: Behind how many days (0 .. 60) he MAY first do a set");
        CheekClause z = clauses("p 40 must a", "p 7 must b", "p 1 mustnt c");
        int[] want = {40, 7, 40, 0, 40, 7, 40, 1};
        for (int set = 0; set < 8; set++) {
            int asked = set;
            DUE.answers(z, "mayIn(0, " + set + ")", want[set], () -> z.mayIn(0, asked));
            DUE.answers(z, "mayIn(1, " + set + ")", 0, () -> z.mayIn(1, asked));
        }
        DUE.about("31: NONE: 1; 2 (no such set)");
        DUE.refusesEach(z, "mayIn(m, 0)", 1, Due.not(2), (y, m) -> y.mayIn(m, 0));
        DUE.refusesEach(z, "mayIn(0, set)", 2, Due.not(8), (y, set) -> y.mayIn(0, set));
        DUE.refusesEach(z, "mayIn(2, set)", 1, Due.not(8), (y, set) -> y.mayIn(2, set));
        DUE.refusesWithoutCity("mayIn", -1, (y, m) -> y.mayIn(m, 0));
    }

    public static void main(String[] args) {
        bar();
        free();
        cheapAndPrice();
        idle();
        heaviest();
        feared();
        spread();
        together();
        inkAndWaysIn();
        freeClearMayIn();
        DUE.end("FreeEdgesTest");
    }
}
