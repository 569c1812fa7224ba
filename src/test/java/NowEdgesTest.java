/** Term II and promises 6 to 16: each sentence that names a bound or a refusal, by a test of its own. */
public final class NowEdgesTest {
    private static final String TWO = Due.city(0, 0, 0, "man p", "man q", "deed a", "deed b", "clause r on p ink 9 must a",
            "clause s on p ink 8 mustnt b", "clause t on q ink 1 either a b");
    private static final String SIX_DEEDS = "deed a;deed b;deed c;deed d;deed e;deed f";
    private static final String[] FORMS = {"must", "mustnt", "if", "unless", "notboth", "either"};

    private static final Due DUE = new Due();

    private NowEdgesTest() {
    }

    private static void inks(CheekClause x, int... want) {
        for (int c = 0; c < want.length; c++) {
            DUE.is("ink of clause " + c, x.clause(c, 4), want[c]);
        }
    }

    // ---- term II

    private static void pressedAsTold() {
        DUE.about("II: each one pressed blurs all others on that man: blur less INK of each");
        String lines = "man p;man q;deed a;clause r on p ink 20 must a;clause s on q ink 20 must a;"
                + "clause t on p ink 20 must a;clause u on p ink 20 must a";
        inks(DUE.told(Due.city(0, 0, 0, lines)), 20, 20, 20, 20);
        inks(DUE.told(Due.city(1, 0, 0, lines)), 18, 20, 19, 20);
        inks(DUE.told(Due.city(9, 0, 0, lines)), 2, 20, 11, 20);
        DUE.about("II: (0 at least)");
        inks(DUE.told(Due.city(9, 0, 0, "man p;deed a;clause r on p ink 8 must a;clause s on p ink 9 must a;"
                + "clause t on p ink 10 must a;clause u on p ink 1 must a")), 0, 0, 1, 1);
        DUE.about("II: then it has as much as told");
        CheekClause x = DUE.told(Due.city(9, 0, 0, "man p;deed a;clause r on p ink 1 must a;clause s on p ink 40 must a"));
        inks(x, 0, 40);
        DUE.is("ink as told", x.clause(0, 6), 1);
        DUE.about("II: on day 0");
        DUE.is("size(8)", x.size(8), 0);
    }

    private static void aDay() {
        DUE.about("II: A DAY: 1 less of each (0 at least)");
        CheekClause x = DUE.told(TWO);
        x.wash(0);
        x.day();
        inks(x, 0, 7, 0);
        x.day();
        inks(x, 0, 6, 0);
        DUE.about("II: It BINDS while its INK is above 0");
        x = DUE.told(TWO);
        DUE.is("ink 1 binds", x.man(1, 1), 4);
        DUE.is("ways with ink 1", x.ways(1), 2);
        x.day();
        DUE.is("ink 0 does not", x.man(1, 1), 0);
        DUE.is("ways with ink 0", x.ways(1), 4);
        DUE.is("it is on him still", x.man(1, 0), 4);
    }

    /** Sets of two deeds that a form keeps, in the order none, first, second, both. */
    private static void form(String name, String line, boolean isTurned, int none, int first, int second, int both) {
        // the deeds are the second and the fourth of six, so that others come and go
        CheekClause x = DUE.told(Due.city(0, 0, 0, "man p", SIX_DEEDS, "clause r on p ink 1 " + line));
        if (isTurned) {
            x.turn(0);
        }
        int count = 0;
        for (int set = 0; set < 64; set++) {
            boolean hasFirst = (set & 2) != 0;
            boolean hasSecond = (set & 8) != 0;
            int want = hasFirst ? hasSecond ? both : first : hasSecond ? second : none;
            DUE.is(name + ", keeps(0, " + set + ")", x.keeps(0, set), want);
            DUE.is(name + ", may(0, " + set + ")", x.may(0, set), want);
            count += want;
        }
        DUE.is(name + ", ways(0)", x.ways(0), count);
        x.day();
        DUE.is(name + ", without ink ways(0)", x.ways(0), 64);
        for (int set : new int[] {0, 2, 8, 10}) {
            int want = set == 0 ? none : set == 2 ? first : set == 8 ? second : both;
            DUE.is(name + ", without ink keeps(0, " + set + ")", x.keeps(0, set), want);
        }
    }

    private static void formsAsTold() {
        DUE.about("II: A set of deeds KEEPS a clause");
        form("must: it has the deed", "must b", false, 0, 1, 0, 1);
        form("mustnt: it hasn't", "mustnt b", false, 1, 0, 1, 0);
        form("if: it has the second one, or not the first", "if b d", false, 1, 0, 1, 1);
        form("unless: the first one, or the second, or both", "unless b d", false, 0, 1, 1, 1);
        form("notboth: not both", "notboth b d", false, 1, 1, 1, 0);
        form("either: just one of both", "either b d", false, 0, 1, 1, 0);
        form("if, the deeds told the other way", "if d b", false, 1, 1, 0, 1);
    }

    private static void formsTurned() {
        DUE.about("II: TURNED (the wrong way round)");
        form("must is mustnt", "must b", true, 1, 0, 1, 0);
        form("mustnt must", "mustnt b", true, 0, 1, 0, 1);
        form("if has its deeds the other way round", "if b d", true, 1, 1, 0, 1);
        form("unless is notboth", "unless b d", true, 1, 1, 1, 0);
        form("notboth unless", "notboth b d", true, 0, 1, 1, 1);
        form("either is both or none", "either b d", true, 1, 0, 0, 1);
    }

    private static void mayAndStuck() {
        DUE.about("II: One MAY do a set if it KEEPS all clauses that BIND him");
        CheekClause x = DUE.told(TWO);
        int[] ofP = {0, 1, 0, 0};
        int[] ofQ = {0, 1, 1, 0};
        for (int set = 0; set < 4; set++) {
            DUE.is("may(0, " + set + ")", x.may(0, set), ofP[set]);
            DUE.is("may(1, " + set + ")", x.may(1, set), ofQ[set]);
        }
        DUE.about("II: STUCK: there is none such");
        x.turn(1);
        x.turn(0);
        DUE.is("ways(0), one left", x.ways(0), 1);
        DUE.is("stuck()", x.stuck(), 0);
        x.press(2, 0);
        x.turn(2);
        DUE.is("ways(0), none left", x.ways(0), 0);
        DUE.is("stuck()", x.stuck(), 1);
    }

    // ---- promises 6 and 7

    private static void clause() {
        DUE.about("6: FORM as told (0 must .. 5 either), its first deed, its second (-2 none)");
        for (int form = 0; form < 6; form++) {
            String deeds = form < 2 ? " f" : " f e";
            CheekClause x = DUE.told(Due.city(0, 0, 0, "man p", SIX_DEEDS, "clause r on p ink 40 " + FORMS[form] + deeds));
            for (int turned = 0; turned < 2; turned++) {
                DUE.answers(x, "form", form, () -> x.clause(0, 0));
                DUE.answers(x, "first deed", 5, () -> x.clause(0, 1));
                DUE.answers(x, "second deed", form < 2 ? -2 : 4, () -> x.clause(0, 2));
                DUE.answers(x, "turned", turned, () -> x.clause(0, 5));
                x.turn(0);
            }
        }
        DUE.about("6: its man NOW, INK, INK as told");
        CheekClause x = DUE.told(Due.city(2, 0, 0, "man p;man q;man r;man s;deed a;clause t on p ink 9 must a;clause u on s ink 3 must a"));
        DUE.answers(x, "man", 3, () -> x.clause(1, 3));
        x.press(0, 3);
        DUE.answers(x, "man", 3, () -> x.clause(0, 3));
        DUE.answers(x, "ink", 9, () -> x.clause(0, 4));
        DUE.answers(x, "ink", 1, () -> x.clause(1, 4));
        DUE.answers(x, "ink as told", 3, () -> x.clause(1, 6));
        x.day();
        x.day();
        DUE.answers(x, "ink", 0, () -> x.clause(1, 4));
        DUE.answers(x, "man of one without ink", 3, () -> x.clause(1, 3));
        DUE.answers(x, "ink as told", 9, () -> x.clause(0, 6));

        DUE.about("6: NONE: 1");
        DUE.refusesEach(x, "clause(c, 0)", 1, Due.not(2), (y, c) -> y.clause(c, 0));
        DUE.refusesEach(x, "clause(0, what)", 1, Due.not(7), (y, what) -> y.clause(0, what));
        CheekClause bare = DUE.told("city blur 0 slips 0 rain 0;man p;deed a");
        DUE.refusesEach(bare, "clause(c, 0) of none", 1, Due.not(0), (y, c) -> y.clause(c, 0));
        DUE.refusesWithoutCity("clause", -1, (y, c) -> y.clause(c, 0));
        CheekClause eight = DUE.told(Due.city(0, 0, 0, "man p;deed a" + ";clause xa on p ink 1 must a;clause xb on p ink 2 must a"
                + ";clause xc on p ink 3 must a;clause xd on p ink 4 must a;clause xe on p ink 5 must a"
                + ";clause xf on p ink 6 must a;clause xg on p ink 7 must a;clause xh on p ink 8 must a"));
        DUE.answers(eight, "the eighth", 8, () -> eight.clause(7, 4));
        DUE.refuses(eight, "the ninth", 1, () -> eight.clause(8, 4));
    }

    private static void man() {
        DUE.about("7: clauses on him, as bits, those that BIND him, as bits, their INK together");
        CheekClause x = DUE.told(TWO);
        DUE.answers(x, "man(0, 0)", 3, () -> x.man(0, 0));
        DUE.answers(x, "man(0, 1)", 3, () -> x.man(0, 1));
        DUE.answers(x, "man(0, 2)", 17, () -> x.man(0, 2));
        DUE.answers(x, "man(1, 0)", 4, () -> x.man(1, 0));
        x.wash(0);
        DUE.answers(x, "washed off: on him", 3, () -> x.man(0, 0));
        DUE.answers(x, "washed off: binding", 2, () -> x.man(0, 1));
        DUE.answers(x, "washed off: ink", 8, () -> x.man(0, 2));
        x.press(1, 1);
        DUE.answers(x, "gone to another: on him", 1, () -> x.man(0, 0));
        DUE.answers(x, "none binds: ink", 0, () -> x.man(0, 2));
        DUE.answers(x, "on the other", 6, () -> x.man(1, 0));
        DUE.answers(x, "ink on the other", 9, () -> x.man(1, 2));
        x.day();
        DUE.answers(x, "ink on the other, NOW", 7, () -> x.man(1, 2));
        CheekClause full = DUE.told(Due.city(0, 0, 0, "man p;man q;deed a;clause xa on p ink 40 must a;clause xb on p ink 40 must a;"
                + "clause xc on p ink 40 must a;clause xd on p ink 40 must a;clause xe on p ink 40 must a;"
                + "clause xf on p ink 40 must a;clause xg on p ink 40 must a;clause xh on p ink 40 must a"));
        DUE.answers(full, "all eight on him", 255, () -> full.man(0, 0));
        DUE.answers(full, "all eight bind", 255, () -> full.man(0, 1));
        DUE.answers(full, "ink of eight", 320, () -> full.man(0, 2));
        for (int what = 0; what < 3; what++) {
            int asked = what;
            DUE.answers(full, "of one without any, man(1, " + what + ")", 0, () -> full.man(1, asked));
        }
        DUE.about("7: NONE: 1");
        DUE.refusesEach(x, "man(m, 0)", 1, Due.not(2), (y, m) -> y.man(m, 0));
        DUE.refusesEach(x, "man(0, what)", 1, Due.not(3), (y, what) -> y.man(0, what));
        DUE.refusesWithoutCity("man", -1, (y, m) -> y.man(m, 0));
    }

    // ---- promises 8 to 14

    private static void keepsAndMay() {
        DUE.about("8: 1 if a set of deeds KEEPS a clause, BINDING or not, else 0");
        CheekClause x = DUE.told(TWO);
        DUE.answers(x, "keeps(0, 1)", 1, () -> x.keeps(0, 1));
        DUE.answers(x, "keeps(0, 0)", 0, () -> x.keeps(0, 0));
        x.wash(0);
        DUE.answers(x, "not BINDING, keeps(0, 1)", 1, () -> x.keeps(0, 1));
        DUE.answers(x, "not BINDING, keeps(0, 0)", 0, () -> x.keeps(0, 0));
        DUE.about("8: NONE: 1; 2 (no such set)");
        DUE.refusesEach(x, "keeps(c, 0)", 1, Due.not(3), (y, c) -> y.keeps(c, 0));
        DUE.refusesEach(x, "keeps(0, set)", 2, Due.not(4), (y, set) -> y.keeps(0, set));
        DUE.refusesEach(x, "keeps(3, set)", 1, Due.not(4), (y, set) -> y.keeps(3, set));
        DUE.refusesWithoutCity("keeps", -1, (y, c) -> y.keeps(c, 0));
        DUE.refusesWithoutCity("keeps of a set", -1, (y, set) -> y.keeps(0, set));

        DUE.about("9: 1 if one MAY do a set, else 0. NONE: 1; 2");
        DUE.answers(x, "may(0, 0)", 1, () -> x.may(0, 0));
        DUE.answers(x, "may(0, 3)", 0, () -> x.may(0, 3));
        DUE.refusesEach(x, "may(m, 0)", 1, Due.not(2), (y, m) -> y.may(m, 0));
        DUE.refusesEach(x, "may(0, set)", 2, Due.not(4), (y, set) -> y.may(0, set));
        DUE.refusesEach(x, "may(2, set)", 1, Due.not(4), (y, set) -> y.may(2, set));
        DUE.refusesWithoutCity("may", -1, (y, m) -> y.may(m, 0));
        for (int deeds = 1; deeds <= 6; deeds++) {
            CheekClause y = DUE.told(Due.city(0, 0, 0, "man p", SIX_DEEDS.substring(0, 7 * deeds - 1), "clause z on p ink 1 must a"));
            int most = (1 << deeds) - 1;
            DUE.answers(y, "the last set of " + deeds, 1, () -> y.may(0, most));
            DUE.refuses(y, "one above of " + deeds, 2, () -> y.may(0, most + 1));
            DUE.answers(y, "keeps of the last set", 1, () -> y.keeps(0, most));
            DUE.refuses(y, "keeps of one above", 2, () -> y.keeps(0, most + 1));
        }
    }

    private static void waysAndWayAt() {
        DUE.about("10: How many sets he MAY do. NONE: 1");
        for (int deeds = 1; deeds <= 6; deeds++) {
            CheekClause y = DUE.told(Due.city(0, 0, 0, "man p", SIX_DEEDS.substring(0, 7 * deeds - 1)));
            DUE.answers(y, "all sets of " + deeds, 1 << deeds, () -> y.ways(0));
        }
        CheekClause x = DUE.told(TWO);
        DUE.answers(x, "just one", 1, () -> x.ways(0));
        DUE.answers(x, "two", 2, () -> x.ways(1));
        DUE.refusesEach(x, "ways", 1, Due.not(2), (y, m) -> y.ways(m));
        DUE.refusesWithoutCity("ways", -1, (y, m) -> y.ways(m));

        DUE.about("11: The i-th of them, by bits. NONE: 1 (i, too)");
        DUE.answers(x, "wayAt(0, 0)", 1, () -> x.wayAt(0, 0));
        DUE.answers(x, "wayAt(1, 0)", 1, () -> x.wayAt(1, 0));
        DUE.answers(x, "wayAt(1, 1)", 2, () -> x.wayAt(1, 1));
        DUE.refusesEach(x, "wayAt(0, i)", 1, Due.not(1), (y, i) -> y.wayAt(0, i));
        DUE.refusesEach(x, "wayAt(1, i)", 1, Due.not(2), (y, i) -> y.wayAt(1, i));
        DUE.refusesEach(x, "wayAt(m, 0)", 1, Due.not(2), (y, m) -> y.wayAt(m, 0));
        DUE.refusesWithoutCity("wayAt", -1, (y, m) -> y.wayAt(m, 0));
        CheekClause all = DUE.told(Due.city(0, 0, 0, "man p", SIX_DEEDS));
        for (int i = 0; i < 64; i++) {
            DUE.is("wayAt(0, " + i + ")", all.wayAt(0, i), i);
        }
        DUE.refuses(all, "wayAt(0, 64)", 1, () -> all.wayAt(0, 64));
        CheekClause stuck = DUE.told(Due.city(0, 0, 0, "man p;deed a;clause r on p ink 1 must a;clause s on p ink 1 mustnt a"));
        DUE.answers(stuck, "none", 0, () -> stuck.ways(0));
        DUE.refuses(stuck, "the first of none", 1, () -> stuck.wayAt(0, 0));
    }

    private static void canMustIdlest() {
        CheekClause free = DUE.told(Due.city(0, 0, 0, "man p", SIX_DEEDS));
        CheekClause all = DUE.told(Due.city(0, 0, 0, "man p", SIX_DEEDS, "clause ca on p ink 1 must a;clause cb on p ink 1 must b;"
                + "clause cc on p ink 1 must c;clause cd on p ink 1 must d;clause ce on p ink 1 must e;clause cf on p ink 1 must f"));
        CheekClause mixed = DUE.told(Due.city(0, 0, 0, "man p;man q", SIX_DEEDS, "clause r on p ink 1 must f;clause s on p ink 1 mustnt a"));
        CheekClause stuck = DUE.told(Due.city(0, 0, 0, "man p;deed a;deed b;clause r on p ink 1 must a;clause s on p ink 1 mustnt a"));
        DUE.about("12: Deeds in some of them, as bits. NONE: 1");
        DUE.answers(free, "can, free", 63, () -> free.can(0));
        DUE.answers(all, "can, all", 63, () -> all.can(0));
        DUE.answers(mixed, "can, all but the first", 62, () -> mixed.can(0));
        DUE.answers(stuck, "can, stuck", 0, () -> stuck.can(0));
        DUE.refusesEach(mixed, "can", 1, Due.not(2), (y, m) -> y.can(m));
        DUE.refusesWithoutCity("can", -1, (y, m) -> y.can(m));
        DUE.about("13: Deeds in all of them (0 if he is STUCK), as bits. NONE: 1");
        DUE.answers(free, "must, free", 0, () -> free.must(0));
        DUE.answers(all, "must, all", 63, () -> all.must(0));
        DUE.answers(mixed, "must, the sixth", 32, () -> mixed.must(0));
        DUE.answers(stuck, "must, stuck", 0, () -> stuck.must(0));
        DUE.refusesEach(mixed, "must", 1, Due.not(2), (y, m) -> y.must(m));
        DUE.refusesWithoutCity("must", -1, (y, m) -> y.must(m));
        DUE.about("14: The set he MAY do with fewest deeds, of like ones the least; -2 he is STUCK. NONE: 1");
        DUE.answers(free, "idlest, nothing at all", 0, () -> free.idlest(0));
        DUE.answers(all, "idlest, everything", 63, () -> all.idlest(0));
        DUE.answers(mixed, "idlest, the sixth alone", 32, () -> mixed.idlest(0));
        DUE.answers(stuck, "idlest, stuck", -2, () -> stuck.idlest(0));
        DUE.refusesEach(mixed, "idlest", 1, Due.not(2), (y, m) -> y.idlest(m));
        DUE.refusesWithoutCity("idlest", -1, (y, m) -> y.idlest(m));
        // he may do a and b, or c alone, which is the greater number with fewer deeds
        CheekClause few = DUE.told(Due.city(0, 0, 0, "man p;deed a;deed b;deed c;clause r on p ink 1 either c a;clause s on p ink 1 either c b"));
        DUE.answers(few, "the first way", 3, () -> few.wayAt(0, 0));
        DUE.answers(few, "idlest, fewest deeds", 4, () -> few.idlest(0));
        CheekClause like = DUE.told(Due.city(0, 0, 0, "man p;deed a;deed b;deed c;clause r on p ink 1 unless c b"));
        DUE.answers(like, "idlest, of like ones the least", 2, () -> like.idlest(0));
    }

    // ---- promises 15 and 16

    private static void men() {
        String four = "man p;man q;man r;man s;deed a;deed b";
        DUE.about("15: Men who are STUCK, as bits. NONE: 1 (no CITY)");
        CheekClause all = DUE.told(Due.city(0, 0, 0, four, "clause xa on p ink 1 must a;clause xb on p ink 2 mustnt a;"
                + "clause xc on q ink 3 must a;clause xd on q ink 3 mustnt a;clause xe on r ink 3 must a;"
                + "clause xf on r ink 3 mustnt a;clause xg on s ink 3 must b;clause xh on s ink 3 mustnt b"));
        DUE.answers(all, "all four", 15, () -> all.stuck());
        DUE.answers(all, "the first of those without any", 0, () -> all.mostBound());
        all.day();
        DUE.answers(all, "all but the first", 14, () -> all.stuck());
        DUE.answers(all, "the second", 1, () -> all.mostBound());
        all.wash(2);
        all.wash(4);
        DUE.answers(all, "the fourth", 8, () -> all.stuck());
        DUE.answers(all, "the fourth", 3, () -> all.mostBound());
        CheekClause few = DUE.told(Due.city(0, 0, 0, four, "clause xa on s ink 1 must a;clause xb on s ink 1 mustnt a"));
        DUE.answers(few, "the last of more men than clauses", 8, () -> few.stuck());
        CheekClause free = DUE.told(Due.city(0, 0, 0, four));
        DUE.answers(free, "nobody", 0, () -> free.stuck());
        CheekClause none = new CheekClause();
        DUE.refuses(none, "stuck()", 1, () -> none.stuck());
        DUE.about("16: The man who MAY do fewest sets, the first such. NONE: 1 (no CITY)");
        DUE.answers(free, "all alike", 0, () -> free.mostBound());
        CheekClause some = DUE.told(Due.city(0, 0, 0, four, "clause xa on q ink 2 unless a b;clause xb on r ink 1 must a;clause xc on s ink 2 mustnt a"));
        DUE.answers(some, "two of like ones", 2, () -> some.mostBound());
        some.day();
        DUE.answers(some, "the last alone", 3, () -> some.mostBound());
        some.wash(2);
        DUE.answers(some, "the second alone", 1, () -> some.mostBound());
        DUE.refuses(none, "mostBound()", 1, () -> none.mostBound());
    }

    public static void main(String[] args) {
        pressedAsTold();
        aDay();
        formsAsTold();
        formsTurned();
        mayAndStuck();
        clause();
        man();
        keepsAndMay();
        waysAndWayAt();
        canMustIdlest();
        men();
        DUE.end("NowEdgesTest");
    }
}
