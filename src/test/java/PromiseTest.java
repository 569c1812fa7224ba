import java.util.NoSuchElementException;

/** Each promise of the document by its number: what it answers, its edges, and the calls it refuses. */
public final class PromiseTest {
    /** r 5, s 5, t 5 are left of the ink on p, who is stuck by all three; u 40 on q. */
    private static final String PAIR = "city blur 2 slips 0 rain 25;man p;man q;deed a;deed b;deed c;"
            + "clause r on p ink 9 must a;clause s on p ink 7 mustnt b;clause t on p ink 5 if a b;"
            + "clause u on q ink 40 unless b c;unsure t;unsure s;did p day 0 kept a,b;did p day 4 breach";
    private static final String BARE = "city blur 0 slips 0 rain 0;man p;deed a";
    /** All six forms over a and b, a clause each, on one man. */
    private static final String FORMS = "city blur 0 slips 10 rain 10;man p;deed a;deed b;"
            + "clause r on p ink 1 must a;clause s on p ink 2 mustnt a;clause t on p ink 3 if a b;"
            + "clause u on p ink 4 unless a b;clause v on p ink 5 notboth a b;clause w on p ink 6 either a b";
    private static final String HEAD = "city blur 1 slips 5 rain 5;";

    private static final Due DUE = new Due();

    private PromiseTest() {
    }

    private static void p1NewObject() {
        CheekClause x = new CheekClause();
        for (int what = 0; what < 12; what++) {
            DUE.is("size(" + what + ")", x.size(what), 0);
        }
        DUE.is("trouble()", x.trouble(), 0);
        DUE.is("fault()", x.fault(), 0);
        DUE.is("where()", x.where(), -1);
        DUE.no(x, "stuck()", x.stuck(), 1);
        DUE.is("NONE", CheekClause.NONE, -1);
    }

    private static void p2Feed() {
        CheekClause x = new CheekClause();
        x.undo();
        for (int i = 1; i <= 45; i++) {
            DUE.is("feed " + i, x.feed(1, 2, 3, 4, 5), 20 * i);
        }
        DUE.is("feed above 900", x.feed(1, 2, 3, 4, 5), -1);
        DUE.is("size(11)", x.size(11), 900);
        DUE.is("feed is none of the calls with a number", x.trouble(), 6);
        x.city(0);
        DUE.is("feed once it is empty", x.feed(-1, 2, 3, 4, 5), 20);
        // each number's highest byte comes first
        x = new CheekClause();
        x.feed('c' << 24 | 'i' << 16 | 't' << 8 | 'y', 0x20202020, 0x20202020, 0x20202020, 0xff202020);
        DUE.no(x, "city(20)", x.city(20), 4);
        DUE.is("where()", x.where(), 16);
        DUE.is("fault()", x.fault(), 1);
    }

    private static void p3City() {
        CheekClause x = new CheekClause();
        Due.feed(x, PAIR + "#####");
        DUE.no(x, "city(-1)", x.city(-1), 2);
        DUE.no(x, "city above the tape", x.city(x.size(11) + 1), 2);
        DUE.is("the tape stays", x.size(11), (PAIR.length() + 5 + 19) / 20 * 20);
        DUE.is("city of the first bytes", x.city(PAIR.length()), 2);
        DUE.is("trouble()", x.trouble(), 0);
        DUE.is("the tape is empty", x.size(11), 0);
        x.day();
        x.turn(0);
        x.image();
        DUE.no(x, "city with a fault", Due.tell(x, HEAD + "man"), 4);
        DUE.is("the city stays", x.size(3), 2);
        DUE.is("its days stay", x.size(8), 1);
        DUE.is("its acts stay", x.size(9), 2);
        DUE.is("its images stay", x.size(10), 1);
        DUE.is("it is turned as before", x.clause(0, 5), 1);
        DUE.is("the tape is empty", x.size(11), 0);
        DUE.is("a city anew", Due.tell(x, PAIR), 2);
        DUE.is("day 0", x.size(8), 0);
        DUE.is("nothing to undo", x.size(9), 0);
        DUE.is("no images", x.size(10), 0);
        DUE.is("nothing turned", x.clause(0, 5), 0);
        DUE.is("ink as pressed", x.clause(0, 4), 5);
        DUE.no(x, "undo()", x.undo(), 6);
        DUE.no(x, "back(0)", x.back(0), 1);
        DUE.is("a smaller one", Due.tell(x, BARE), 1);
        DUE.no(x, "clause(0, 0)", x.clause(0, 0), 1);
        DUE.is("four men", Due.tell(x, HEAD + "man a;man b;man c;man d;deed e"), 4);
    }

    private static void p4FaultsOfForm() {
        String base = HEAD + "man p;deed a;deed b;clause s on p ink 5 must a";
        DUE.faultAt("", "", 1);
        DUE.faultAt("   ", "", 1);
        DUE.faultAt("", "town", 1);
        DUE.faultAt("", "5", 1);
        DUE.faultAt("", ";", 1);
        DUE.faultAt("  ", "City", 1);
        DUE.faultAt("city ", "5", 1);
        DUE.faultAt("city blur ", "x", 1);
        DUE.faultAt("city blur ", "", 1);
        DUE.faultAt("city blur 1 ", "rain 5", 1);
        DUE.faultAt("city blur 1 slips 2 rain 3 ", ",", 1);
        DUE.faultAt("city blur ", "1000", 1);
        DUE.faultAt("city blur 1 slips 5 rain 5", "\t;man p", 1);
        DUE.faultAt(HEAD, "", 1);
        DUE.faultAt(HEAD, ";", 1);
        DUE.faultAt(HEAD + "man p;deed a;", "", 1);
        DUE.faultAt(HEAD + "man p;deed a;  ", "", 1);
        DUE.faultAt(HEAD + "man ", "abcdefghi", 1);
        DUE.faultAt(HEAD + "man ", "5", 1);
        DUE.faultAt(HEAD + "man ", "clause", 1);
        DUE.faultAt(HEAD + "man p ", "q", 1);
        DUE.faultAt(base + ";deed ", "unsure", 1);
        DUE.faultAt(base + " ", "b", 1);
        DUE.faultAt(base + ";clause t on p ink 5 ", "may a", 1);
        DUE.faultAt(base + ";clause t on p ink 5 if a", ";man q", 1);
        DUE.faultAt(base + ";clause t on p ink 5 if a b ", "a", 1);
        DUE.faultAt(base + ";clause t on p ", "5", 1);
        DUE.faultAt(base + ";clause t on ", "man", 1);
        DUE.faultAt(base + ";unsure ", "", 1);
        DUE.faultAt(base + ";unsure s ", "s", 1);
        DUE.faultAt(base + ";did p day 1 ", "", 1);
        DUE.faultAt(base + ";did p day 1 ", "done", 1);
        DUE.faultAt(base + ";did p day 1 kept ", ",", 1);
        DUE.faultAt(base + ";did p day 1 kept ", "5", 1);
        DUE.faultAt(base + ";did p day 1 kept a ", "b", 1);
        DUE.faultAt(base + ";did p day 1 kept a", "#b", 1);
        DUE.faultAt(base + ";did p day 1 kept a,", "", 1);
        DUE.faultAt(base + ";did p day 1 kept a,", ";", 1);
        DUE.faultAt(base + ";did p day 1 kept a,", "did", 1);
        DUE.faultAt(base, "" + (char) 200, 1);
        DUE.faultAt(base, "" + (char) 0, 1);
    }

    private static void p4OtherFaults() {
        String base = HEAD + "man p;deed a;deed b;clause s on p ink 5 must a";
        DUE.faultAt(base + ";clause t on ", "q", 2);
        DUE.faultAt(base + ";clause t on ", "t", 2);
        DUE.faultAt(base + ";clause t on ", "a ink 99", 2);
        DUE.faultAt(base + ";clause t on p ink 5 must ", "p", 2);
        DUE.faultAt(base + ";clause t on p ink 5 if a ", "c", 2);
        DUE.faultAt(base + ";unsure ", "a", 2);
        DUE.faultAt(base + ";unsure ", "t", 2);
        DUE.faultAt(base + ";did ", "s", 2);
        DUE.faultAt(base + ";did p day 1 breach a,", "p", 2);
        DUE.faultAt(base + ";man ", "p", 3);
        DUE.faultAt(base + ";deed ", "s", 3);
        DUE.faultAt(base + ";clause ", "b on p", 3);
        DUE.faultAt(base + ";clause t on p ink 5 either b ", "b", 3);
        DUE.faultAt(base + ";unsure s;unsure ", "s", 3);
        DUE.faultAt(base + ";did p day 1 kept a,b,", "a", 3);
        DUE.faultAt(base + ";", "city", 3);
        DUE.faultAt("city blur ", "10 slips 5", 4);
        DUE.faultAt("city blur 1 slips ", "101", 4);
        DUE.faultAt("city blur 1 slips 100 rain ", "101", 4);
        DUE.faultAt(base + ";clause t on p ink ", "0", 4);
        DUE.faultAt(base + ";clause t on p ink ", "41", 4);
        DUE.faultAt(base + ";did p day ", "41", 4);
        DUE.faultAt(HEAD + "man a;man b;man c;man d;", "man e", 5);
        DUE.faultAt(HEAD + "deed a;deed b;deed c;deed d;deed e;deed f;", "deed", 5);
        String clause = ";clause s%s on p ink 1 must a";
        String eight = HEAD + "man p;deed a";
        String five = "";
        for (int i = 0; i < 8; i++) {
            eight += String.format(clause, "abcdefgh".charAt(i));
            five += i < 5 ? ";unsure s" + "hgfed".charAt(i) : "";
        }
        DUE.faultAt(eight + ";", "clause a", 5);
        DUE.faultAt(eight + five + ";", "unsure sa", 5);
        String six = HEAD + "man p;deed a";
        for (int i = 0; i < 6; i++) {
            six += ";did p day " + i + " kept";
        }
        DUE.faultAt(six + ";", "did p day 1 kept", 5);
        DUE.faultAt("", "man 5", 6);
        DUE.faultAt("  ", "did", 6);
        DUE.faultAt(HEAD + "man p", "", 6);
        DUE.faultAt(HEAD + "deed a  ", "", 6);
        DUE.faultAt("city blur 0 slips 0 rain 0", "", 6);
        DUE.fine(eight + five, 1);
        DUE.fine(six, 1);
    }

    private static void p4TextsWithout() {
        DUE.fine(BARE, 1);
        DUE.fine("  city  blur 009slips 100rain 100 ; man on ; man ink;deed must ;deed day ; clause if on on ink 40 if must day"
                + "; clause kept on ink ink 1mustnt day ;unsure if;did on day 40 kept must , day;did ink day 0 breach ", 2);
        DUE.fine("city blur 0 slips 0 rain 0;deed a;man abcdefgh;deed b", 1);
        CheekClause x = DUE.told(PAIR);
        DUE.is("fault()", x.fault(), 0);
        Due.tell(x, "man p");
        DUE.is("fault()", x.fault(), 6);
        DUE.no(x, "city(9)", x.city(9), 2);
        DUE.is("fault() behind a refusal by 2", x.fault(), 6);
        Due.tell(x, BARE);
        DUE.is("fault()", x.fault(), 0);
    }

    private static void p5Where() {
        CheekClause x = DUE.told(PAIR);
        Due.tell(x, HEAD + "man p;deed a;deed a");
        DUE.is("where()", x.where(), HEAD.length() + 18);
        x.feed(0, 0, 0, 0, 0);
        x.size(77);
        DUE.is("where() behind calls without a number", x.where(), HEAD.length() + 18);
        x.stuck();
        DUE.is("where() behind another call", x.where(), -1);
        Due.tell(x, "");
        DUE.is("where()", x.where(), 0);
        x.city(21);
        DUE.is("where() behind a refusal by 2", x.where(), -1);
    }

    private static void p6Clause() {
        CheekClause x = DUE.told(FORMS);
        for (int c = 0; c < 6; c++) {
            DUE.is("form", x.clause(c, 0), c);
            DUE.is("first deed", x.clause(c, 1), 0);
            DUE.is("second deed", x.clause(c, 2), c < 2 ? -2 : 1);
            DUE.is("man", x.clause(c, 3), 0);
            DUE.is("ink", x.clause(c, 4), c + 1);
            DUE.is("ink as told", x.clause(c, 6), c + 1);
            DUE.is("turned", x.clause(c, 5), 0);
            x.turn(c);
            DUE.is("turned", x.clause(c, 5), 1);
            DUE.is("form as told", x.clause(c, 0), c);
            DUE.is("trouble()", x.trouble(), 0);
        }
        x = DUE.told(PAIR);
        DUE.is("blurred twice", x.clause(0, 4), 5);
        DUE.is("blurred once", x.clause(1, 4), 5);
        DUE.is("not blurred", x.clause(2, 4), 5);
        DUE.is("alone", x.clause(3, 4), 40);
        DUE.is("ink as told", x.clause(0, 6), 9);
        x.press(0, 1);
        DUE.is("man now", x.clause(0, 3), 1);
        DUE.no(x, "clause(4, 0)", x.clause(4, 0), 1);
        DUE.no(x, "clause(-1, 0)", x.clause(-1, 0), 1);
        DUE.no(x, "clause(0, 7)", x.clause(0, 7), 1);
        DUE.no(x, "clause(0, -1)", x.clause(0, -1), 1);
        x = DUE.told("city blur 9 slips 0 rain 0;man p;deed a;clause r on p ink 9 must a;clause s on p ink 9 must a");
        DUE.is("blurred to 0", x.clause(0, 4), 0);
    }

    private static void p7Man() {
        CheekClause x = DUE.told(PAIR);
        DUE.is("on him", x.man(0, 0), 7);
        DUE.is("binding", x.man(0, 1), 7);
        DUE.is("ink", x.man(0, 2), 15);
        DUE.is("on the other", x.man(1, 0), 8);
        x.wash(1);
        DUE.is("on him", x.man(0, 0), 7);
        DUE.is("binding", x.man(0, 1), 5);
        DUE.is("ink", x.man(0, 2), 10);
        DUE.no(x, "man(2, 0)", x.man(2, 0), 1);
        DUE.no(x, "man(-1, 0)", x.man(-1, 0), 1);
        DUE.no(x, "man(0, 3)", x.man(0, 3), 1);
        DUE.no(x, "man(0, -1)", x.man(0, -1), 1);
    }

    private static void p8Keeps() {
        // by sets none, a, b, both; a row a form, as told and turned
        int[][] straight = {{0, 1, 0, 1}, {1, 0, 1, 0}, {1, 0, 1, 1}, {0, 1, 1, 1}, {1, 1, 1, 0}, {0, 1, 1, 0}};
        int[][] turned = {{1, 0, 1, 0}, {0, 1, 0, 1}, {1, 1, 0, 1}, {1, 1, 1, 0}, {0, 1, 1, 1}, {1, 0, 0, 1}};
        CheekClause x = DUE.told(FORMS);
        for (int c = 0; c < 6; c++) {
            for (int set = 0; set < 4; set++) {
                DUE.is("keeps(" + c + ", " + set + ")", x.keeps(c, set), straight[c][set]);
            }
            x.turn(c);
            if (c % 2 == 0) {
                x.wash(c);
            }
            for (int set = 0; set < 4; set++) {
                DUE.is("turned, keeps(" + c + ", " + set + ")", x.keeps(c, set), turned[c][set]);
            }
        }
        DUE.no(x, "keeps(6, 0)", x.keeps(6, 0), 1);
        DUE.no(x, "keeps(6, 99)", x.keeps(6, 99), 1);
        DUE.no(x, "keeps(0, 4)", x.keeps(0, 4), 2);
        DUE.no(x, "keeps(0, -1)", x.keeps(0, -1), 2);
    }

    private static void p9To14OneMan() {
        CheekClause x = DUE.told(PAIR);
        DUE.is("may(1, 0)", x.may(1, 0), 0);
        DUE.is("may(1, 2)", x.may(1, 2), 1);
        DUE.is("may(0, 1)", x.may(0, 1), 0);
        DUE.no(x, "may(2, 9)", x.may(2, 9), 1);
        DUE.no(x, "may(0, 8)", x.may(0, 8), 2);
        DUE.is("ways(0)", x.ways(0), 0);
        DUE.is("ways(1)", x.ways(1), 6);
        DUE.no(x, "ways(2)", x.ways(2), 1);
        DUE.is("wayAt(1, 0)", x.wayAt(1, 0), 2);
        DUE.is("wayAt(1, 5)", x.wayAt(1, 5), 7);
        DUE.no(x, "wayAt(1, 6)", x.wayAt(1, 6), 1);
        DUE.no(x, "wayAt(1, -1)", x.wayAt(1, -1), 1);
        DUE.no(x, "wayAt(2, 0)", x.wayAt(2, 0), 1);
        DUE.is("can(0)", x.can(0), 0);
        DUE.is("can(1)", x.can(1), 7);
        DUE.no(x, "can(-1)", x.can(-1), 1);
        DUE.is("must(0)", x.must(0), 0);
        DUE.is("must(1)", x.must(1), 0);
        DUE.no(x, "must(2)", x.must(2), 1);
        DUE.is("idlest(0)", x.idlest(0), -2);
        DUE.is("idlest(1)", x.idlest(1), 2);
        DUE.no(x, "idlest(2)", x.idlest(2), 1);
        x.wash(1);
        DUE.is("without s, must(0)", x.must(0), 3);
        DUE.is("without s, can(0)", x.can(0), 7);
        DUE.is("without s, idlest(0)", x.idlest(0), 3);
        x.undo();
        x.wash(2);
        DUE.is("without t, can(0)", x.can(0), 5);
        DUE.is("without t, must(0)", x.must(0), 1);
        x = DUE.told("city blur 0 slips 0 rain 0;man p;deed a;deed b;deed c;deed d;deed e;deed f");
        DUE.is("all 64", x.ways(0), 64);
        DUE.is("the last", x.wayAt(0, 63), 63);
        DUE.is("can", x.can(0), 63);
        DUE.is("may(0, 63)", x.may(0, 63), 1);
        DUE.no(x, "may(0, 64)", x.may(0, 64), 2);
    }

    private static void p15And16Men() {
        CheekClause x = DUE.told(HEAD + "man p;man q;man r;deed a;clause s on q ink 9 must a;clause t on q ink 9 mustnt a;"
                + "clause u on r ink 9 must a");
        DUE.is("stuck()", x.stuck(), 2);
        DUE.is("mostBound()", x.mostBound(), 1);
        x.wash(0);
        DUE.is("stuck()", x.stuck(), 0);
        DUE.is("mostBound(), the first", x.mostBound(), 1);
        x.wash(1);
        DUE.is("mostBound()", x.mostBound(), 2);
        x.wash(2);
        DUE.is("mostBound()", x.mostBound(), 0);
        CheekClause none = new CheekClause();
        DUE.no(none, "stuck()", none.stuck(), 1);
        none.undo();
        DUE.no(none, "mostBound()", none.mostBound(), 1);
    }

    private static void p17To20BarsAndFrees() {
        CheekClause x = DUE.told(PAIR);
        DUE.is("bar(0)", x.bar(0), 7);
        DUE.is("bar(1)", x.bar(1), -2);
        DUE.is("free(0)", x.free(0), 1);
        DUE.is("free(1)", x.free(1), 0);
        DUE.is("cheap(0), the least bits", x.cheap(0), 1);
        DUE.is("price(0)", x.price(0), 5);
        DUE.is("cheap(1)", x.cheap(1), 0);
        DUE.is("price(1)", x.price(1), 0);
        // a against b is one bar, c against d another; c is the dear one, so two cheap ones cost less
        x = DUE.told("city blur 0 slips 0 rain 0;man p;man q;deed a;deed b;clause r on p ink 3 mustnt a;"
                + "clause s on p ink 9 must b;clause t on p ink 8 must a;clause u on p ink 4 mustnt b;"
                + "clause v on p ink 2 mustnt a;clause w on q ink 1 mustnt a");
        DUE.is("bar", x.bar(0), 5);
        DUE.is("free, the fewest", x.free(0), 6);
        DUE.is("cheap, of least ink", x.cheap(0), 25);
        DUE.is("price", x.price(0), 9);
        DUE.no(x, "bar(2)", x.bar(2), 1);
        DUE.no(x, "free(2)", x.free(2), 1);
        DUE.no(x, "cheap(-1)", x.cheap(-1), 1);
        DUE.no(x, "price(2)", x.price(2), 1);
    }

    private static void p21To23WithoutOne() {
        CheekClause x = DUE.told("city blur 0 slips 0 rain 0;man p;man q;deed a;deed b;clause r on p ink 9 must a;"
                + "clause s on p ink 9 unless a b;clause t on p ink 9 unless b a;clause u on q ink 9 mustnt a;"
                + "clause v on q ink 1 must b");
        DUE.is("idle(0): unless says nothing besides must", x.idle(0), 6);
        DUE.is("idle(1)", x.idle(1), 0);
        DUE.is("heaviest(0)", x.heaviest(0), 0);
        DUE.is("heaviest(1), the first of like ones", x.heaviest(1), 3);
        DUE.is("feared(0)", x.feared(0), 8);
        DUE.is("feared(1)", x.feared(1), 1);
        x.press(3, 0);
        DUE.is("stuck: one alone does not free, but for must and mustnt", x.idle(0), 6);
        DUE.is("stuck: feared", x.feared(0), 0);
        x.press(4, 0);
        DUE.is("stuck: idle", x.idle(0), 22);
        x = DUE.told("city blur 0 slips 0 rain 0;man p;deed a;clause r on p ink 9 must a;clause s on p ink 9 mustnt a;"
                + "clause t on p ink 9 must a;clause u on p ink 9 mustnt a");
        DUE.is("stuck either way: all are idle", x.idle(0), 15);
        DUE.is("stuck either way: heaviest is the first", x.heaviest(0), 0);
        x.wash(0);
        x.wash(1);
        x.wash(2);
        x.wash(3);
        DUE.is("heaviest of none", x.heaviest(0), -2);
        DUE.no(x, "idle(1)", x.idle(1), 1);
        DUE.no(x, "heaviest(1)", x.heaviest(1), 1);
        DUE.no(x, "feared(1)", x.feared(1), 1);
    }

    private static void p24To26Spread() {
        CheekClause x = DUE.told("city blur 0 slips 0 rain 0;man p;deed a;deed b;clause r on p ink 9 mustnt a;"
                + "clause s on p ink 9 must a;clause t on p ink 9 mustnt b;clause u on p ink 9 must b;"
                + "clause v on p ink 9 either a b;clause w on p ink 9 either b a;clause z on p ink 9 must b");
        x.turn(5);
        DUE.is("spread()", x.spread(), 3);
        int[] row = {0, 1, 0, 1, 2, 0, 1};
        for (int c = 0; c < 7; c++) {
            DUE.is("spreadAt(" + c + ")", x.spreadAt(c), row[c]);
        }
        DUE.is("together()", x.together(), 1 + 8 + 16 + 64);
        x.wash(5);
        DUE.is("spread()", x.spread(), 2);
        DUE.is("spreadAt(5)", x.spreadAt(5), -2);
        DUE.is("spreadAt(4)", x.spreadAt(4), 0);
        DUE.is("spreadAt(3)", x.spreadAt(3), 0);
        DUE.is("spreadAt(2)", x.spreadAt(2), 1);
        DUE.no(x, "spreadAt(7)", x.spreadAt(7), 1);
        DUE.no(x, "spreadAt(-1)", x.spreadAt(-1), 1);
        x = DUE.told(BARE);
        DUE.is("spread() of nothing", x.spread(), 0);
        DUE.is("together() of nothing", x.together(), 0);
        CheekClause none = new CheekClause();
        DUE.no(none, "spread()", none.spread(), 1);
        none.undo();
        DUE.no(none, "together()", none.together(), 1);
        none.undo();
        DUE.no(none, "spreadAt(0)", none.spreadAt(0), 1);
    }

    private static void p27To31Days() {
        CheekClause x = DUE.told(PAIR);
        DUE.is("ink(0, 0)", x.ink(0, 0), 5);
        DUE.is("ink(3, 39)", x.ink(3, 39), 1);
        DUE.is("ink(3, 40)", x.ink(3, 40), 0);
        DUE.is("ink(0, 60)", x.ink(0, 60), 0);
        DUE.no(x, "ink(4, 61)", x.ink(4, 61), 1);
        DUE.no(x, "ink(0, 61)", x.ink(0, 61), 2);
        DUE.no(x, "ink(0, -1)", x.ink(0, -1), 2);
        DUE.is("waysIn(0, 4)", x.waysIn(0, 4), 0);
        DUE.is("waysIn(0, 5)", x.waysIn(0, 5), 8);
        DUE.is("waysIn(1, 39)", x.waysIn(1, 39), 6);
        DUE.is("waysIn(1, 60)", x.waysIn(1, 60), 8);
        DUE.no(x, "waysIn(2, 61)", x.waysIn(2, 61), 1);
        DUE.no(x, "waysIn(0, 61)", x.waysIn(0, 61), 2);
        DUE.no(x, "waysIn(0, -1)", x.waysIn(0, -1), 2);
        DUE.is("freeIn(0)", x.freeIn(0), 5);
        DUE.is("freeIn(1)", x.freeIn(1), 0);
        DUE.no(x, "freeIn(2)", x.freeIn(2), 1);
        DUE.is("clearIn(0)", x.clearIn(0), 5);
        DUE.is("clearIn(1)", x.clearIn(1), 40);
        DUE.no(x, "clearIn(-1)", x.clearIn(-1), 1);
        DUE.is("mayIn(1, 0)", x.mayIn(1, 0), 40);
        DUE.is("mayIn(1, 2)", x.mayIn(1, 2), 0);
        x.press(0, 0);
        DUE.is("r has 9, s 3, t 3: freeIn(0)", x.freeIn(0), 3);
        DUE.is("mayIn(0, 0)", x.mayIn(0, 0), 9);
        DUE.is("mayIn(0, 1)", x.mayIn(0, 1), 3);
        DUE.is("clearIn(0)", x.clearIn(0), 9);
        DUE.no(x, "mayIn(2, 8)", x.mayIn(2, 8), 1);
        DUE.no(x, "mayIn(0, 8)", x.mayIn(0, 8), 2);
        DUE.no(x, "mayIn(0, -1)", x.mayIn(0, -1), 2);
        DUE.is("no day went by", x.size(8), 0);
    }

    private static void p32To38ReadWrongly() {
        CheekClause x = DUE.told(PAIR);
        for (int round = 0; round < 2; round++) {
            // s must be turned, t may be
            DUE.is("fits()", x.fits(), 2);
            DUE.is("fitAt(0)", x.fitAt(0), 2);
            DUE.is("fitAt(1)", x.fitAt(1), 3);
            DUE.no(x, "fitAt(2)", x.fitAt(2), 1);
            DUE.no(x, "fitAt(-1)", x.fitAt(-1), 1);
            DUE.is("odds(0, upper)", x.odds(0, false), 1);
            DUE.is("odds(0, lower)", x.odds(0, true), 2);
            DUE.is("odds(1, upper)", x.odds(1, false), 1);
            DUE.is("odds(1, lower)", x.odds(1, true), 1);
            DUE.no(x, "odds(2, upper)", x.odds(2, false), 1);
            DUE.no(x, "odds(-1, lower)", x.odds(-1, true), 1);
            DUE.is("likeliest()", x.likeliest(), 2);
            DUE.is("ask()", x.ask(), 0);
            DUE.is("askLeaves()", x.askLeaves(), 1);
            DUE.is("judge()", x.judge(), 0);
            // what is done later changes nothing of it
            x.turn(1);
            x.wash(0);
            x.day();
            x.press(2, 1);
        }
        String slips = "city blur 0 slips 10 rain 0;man p;deed a;deed b;clause r on p ink 2 must a;"
                + "clause s on p ink 9 must b;unsure s;unsure r;did p day 2 kept;did p day 1 breach a;did p day 0 kept a,b;did p day 8 kept b";
        x = DUE.told(slips);
        // none, s, r, both turned, in tenths: 1 9 9 9, 9 1 1 1, 1 9 1 9, 9 9 1 1
        DUE.is("fits()", x.fits(), 4);
        DUE.is("odds(0, upper)", x.odds(0, false), 1);
        DUE.is("odds(0, lower)", x.odds(0, true), 10);
        DUE.is("odds(1, upper)", x.odds(1, false), 9);
        DUE.is("odds(1, lower)", x.odds(1, true), 50);
        DUE.is("likeliest()", x.likeliest(), 0);
        DUE.is("ask(), the first", x.ask(), 0);
        DUE.is("askLeaves()", x.askLeaves(), 2);
        DUE.is("judge()", x.judge(), 0);
        x = DUE.told("city blur 0 slips 0 rain 0;man p;deed a;clause r on p ink 2 must a;unsure r;"
                + "did p day 0 kept;did p day 0 kept a");
        DUE.is("fits()", x.fits(), 0);
        DUE.is("odds(0, upper)", x.odds(0, false), 0);
        DUE.is("odds(0, lower)", x.odds(0, true), 1);
        DUE.is("likeliest()", x.likeliest(), -2);
        DUE.is("ask()", x.ask(), -2);
        DUE.is("askLeaves()", x.askLeaves(), -2);
        DUE.is("judge()", x.judge(), 0);
    }

    private static void p32To38Edges() {
        CheekClause x = DUE.told("city blur 0 slips 100 rain 0;man p;deed a;clause r on p ink 2 must a;unsure r;"
                + "did p day 0 kept a;did p day 1 breach;did p day 2 breach");
        // all is told wrongly, so it is the other way round; on day 2 nothing binds
        DUE.is("fits()", x.fits(), 1);
        DUE.is("fitAt(0)", x.fitAt(0), 1);
        DUE.is("likeliest()", x.likeliest(), 1);
        DUE.is("judge()", x.judge(), 2);
        DUE.is("askLeaves()", x.askLeaves(), 1);
        x = DUE.told(BARE);
        DUE.is("no unsure one: fits()", x.fits(), 1);
        DUE.is("no unsure one: fitAt(0)", x.fitAt(0), 0);
        DUE.is("no unsure one: likeliest()", x.likeliest(), 0);
        DUE.is("no unsure one: ask()", x.ask(), -2);
        DUE.is("no unsure one: askLeaves()", x.askLeaves(), -2);
        DUE.is("nothing done: judge()", x.judge(), -2);
        DUE.no(x, "odds(0, lower)", x.odds(0, true), 1);
        CheekClause none = new CheekClause();
        DUE.no(none, "fits()", none.fits(), 1);
        none.undo();
        DUE.no(none, "fitAt(0)", none.fitAt(0), 1);
        none.undo();
        DUE.no(none, "odds(0, upper)", none.odds(0, false), 1);
        none.undo();
        DUE.no(none, "likeliest()", none.likeliest(), 1);
        none.undo();
        DUE.no(none, "ask()", none.ask(), 1);
        none.undo();
        DUE.no(none, "askLeaves()", none.askLeaves(), 1);
        none.undo();
        DUE.no(none, "judge()", none.judge(), 1);
    }

    private static void p39To41Merchant() {
        CheekClause x = DUE.told(BARE);
        for (int chain = 0; chain <= 9; chain++) {
            DUE.is("shaves, read: his", x.shaves(chain, true, true, false), -chain);
            DUE.is("shaves, read: its", x.shaves(chain, true, true, true), 3);
            DUE.is("shaves, not read: his", x.shaves(chain, true, false, false), 4);
            DUE.is("shaves, not read: its", x.shaves(chain, true, false, true), 0);
            DUE.is("not, read: his", x.shaves(chain, false, true, false), 1);
            DUE.is("not, read: its", x.shaves(chain, false, true, true), 1);
            DUE.is("neither: his", x.shaves(chain, false, false, false), 2);
            DUE.is("neither: its", x.shaves(chain, false, false, true), 2);
            DUE.is("rests(" + chain + ")", x.rests(chain), 0);
            DUE.is("rest(" + chain + ")", x.rest(chain), -2);
            DUE.is("trouble()", x.trouble(), 0);
        }
        DUE.no(x, "shaves(10)", x.shaves(10, true, true, true), -100, 2);
        DUE.no(x, "shaves(-1)", x.shaves(-1, true, true, true), -100, 2);
        DUE.no(x, "rests(10)", x.rests(10), 2);
        DUE.no(x, "rests(-1)", x.rests(-1), 2);
        DUE.no(x, "rest(10)", x.rest(10), 2);
        DUE.no(x, "rest(-1)", x.rest(-1), 2);
        CheekClause none = new CheekClause();
        DUE.no(none, "shaves", none.shaves(10, true, true, true), -100, 1);
        none.undo();
        DUE.no(none, "rests(10)", none.rests(10), 1);
        none.undo();
        DUE.no(none, "rest(10)", none.rest(10), 1);
    }

    private static void odds(String call, long upper, long lower, long wantUpper, long wantLower) {
        DUE.is(call + ", upper", upper, wantUpper);
        DUE.is(call + ", lower", lower, wantLower);
    }

    private static void p42To44Chance() {
        CheekClause x = DUE.told(PAIR);
        odds("mayOdds(0, 0)", x.mayOdds(0, 0, false), x.mayOdds(0, 0, true), 1, 4);
        odds("mayOdds(0, 2)", x.mayOdds(0, 2, false), x.mayOdds(0, 2, true), 1, 16);
        odds("mayOdds(1, 2)", x.mayOdds(1, 2, false), x.mayOdds(1, 2, true), 1, 1);
        odds("freeOdds(0)", x.freeOdds(0, false), x.freeOdds(0, true), 37, 64);
        odds("freeOdds(1)", x.freeOdds(1, false), x.freeOdds(1, true), 1, 1);
        odds("mean(0)", x.mean(0, false), x.mean(0, true), 13, 8);
        odds("mean(1)", x.mean(1, false), x.mean(1, true), 13, 2);
        DUE.no(x, "mayOdds(2, 9)", x.mayOdds(2, 9, false), 1);
        DUE.no(x, "mayOdds(0, 8)", x.mayOdds(0, 8, true), 2);
        DUE.no(x, "mayOdds(0, -1)", x.mayOdds(0, -1, false), 2);
        DUE.no(x, "freeOdds(2)", x.freeOdds(2, true), 1);
        DUE.no(x, "mean(-1)", x.mean(-1, false), 1);
        x = DUE.told("city blur 0 slips 0 rain 0;man p;deed a;clause r on p ink 9 must a;clause s on p ink 9 mustnt a");
        odds("no rain: mayOdds", x.mayOdds(0, 1, false), x.mayOdds(0, 1, true), 0, 1);
        odds("no rain: freeOdds", x.freeOdds(0, false), x.freeOdds(0, true), 0, 1);
        odds("no rain: mean", x.mean(0, false), x.mean(0, true), 0, 1);
        x = DUE.told("city blur 0 slips 0 rain 100;man p;deed a;clause r on p ink 9 must a;clause s on p ink 9 mustnt a");
        odds("rain: mayOdds", x.mayOdds(0, 1, false), x.mayOdds(0, 1, true), 1, 1);
        odds("rain: freeOdds", x.freeOdds(0, false), x.freeOdds(0, true), 1, 1);
        odds("rain: mean", x.mean(0, false), x.mean(0, true), 2, 1);
        // 100 to the 8th: each of 64 sets breaks just four of eight; 33 to the 4th is 1,185,921
        String eight = "city blur 0 slips 0 rain 33;man p;deed a;deed b;deed c;deed d;deed e;deed f";
        for (int i = 0; i < 4; i++) {
            char deed = "abcd".charAt(i);
            eight += ";clause x" + deed + " on p ink 9 must " + deed + ";clause y" + deed + " on p ink 9 mustnt " + deed;
        }
        x = DUE.told(eight);
        odds("eight: mayOdds", x.mayOdds(0, 63, false), x.mayOdds(0, 63, true), 1185921, 100000000);
        odds("eight: mean", x.mean(0, false), x.mean(0, true), 1185921, 1562500);
        // free if of each pair one is gone: (1 less 67 times 67 of 10,000) to the 4th is 5511 to the 4th
        odds("eight: freeOdds", x.freeOdds(0, false), x.freeOdds(0, true), 5511L * 5511 * 5511 * 5511, 10000000000000000L);
    }

    private static void p45And46Draws() {
        CheekClause x = DUE.told(PAIR);
        // draws from 0 on: 74, 24, 52, 90 of the first day
        DUE.is("rained(0, 0)", x.rained(0, 0), 15);
        DUE.is("rained(0, 1)", x.rained(0, 1), 13);
        DUE.is("freeBy(0, 0, 0)", x.freeBy(0, 0, 0), -2);
        DUE.is("freeBy(0, 0, 1)", x.freeBy(0, 0, 1), 1);
        DUE.is("freeBy(0, 0, 60)", x.freeBy(0, 0, 60), 1);
        DUE.is("freeBy(1, 0, 60)", x.freeBy(1, 0, 60), 0);
        DUE.is("nothing was washed off", x.man(0, 1), 7);
        DUE.is("no day went by", x.size(8), 0);
        // 65,536 is -1: the next is -1 again, 36 of a hundred for ever
        DUE.is("rained(65536, 4)", x.rained(65536, 4), 15);
        DUE.is("rained(65536, 5)", x.rained(65536, 5), 8);
        DUE.is("freeBy(0, 65536, 4)", x.freeBy(0, 65536, 4), -2);
        DUE.is("freeBy(0, 65536, 60)", x.freeBy(0, 65536, 60), 5);
        DUE.no(x, "rained(-1, 0)", x.rained(-1, 0), 2);
        DUE.no(x, "rained(65537, 0)", x.rained(65537, 0), 2);
        DUE.no(x, "rained(0, 61)", x.rained(0, 61), 2);
        DUE.no(x, "rained(0, -1)", x.rained(0, -1), 2);
        DUE.no(x, "freeBy(2, -1, 0)", x.freeBy(2, -1, 0), 1);
        DUE.no(x, "freeBy(0, -1, 0)", x.freeBy(0, -1, 0), 2);
        DUE.no(x, "freeBy(0, 65537, 0)", x.freeBy(0, 65537, 0), 2);
        DUE.no(x, "freeBy(0, 0, 61)", x.freeBy(0, 0, 61), 2);
        DUE.no(x, "freeBy(0, 0, -1)", x.freeBy(0, 0, -1), 2);
        CheekClause none = new CheekClause();
        DUE.no(none, "rained(-1, 0)", none.rained(-1, 0), 1);
        none.undo();
        DUE.no(none, "freeBy(0, 0, 0)", none.freeBy(0, 0, 0), 1);
    }

    private static void p47To50Acts() {
        CheekClause x = DUE.told(PAIR);
        for (int i = 0; i < 4; i++) {
            DUE.is("day()", x.day(), 0);
        }
        DUE.is("day()", x.day(), 7);
        DUE.is("day()", x.day(), 0);
        DUE.is("ink", x.clause(3, 4), 34);
        DUE.is("ink stays at 0", x.clause(0, 4), 0);
        DUE.is("size(8)", x.size(8), 6);
        DUE.is("press anew", x.press(0, 0), 0);
        DUE.is("ink as told", x.clause(0, 4), 9);
        DUE.is("not blurred below 0", x.clause(1, 4), 0);
        DUE.is("press on another man", x.press(1, 1), 0);
        DUE.is("blurred there", x.clause(3, 4), 32);
        DUE.is("not blurred here", x.clause(0, 4), 9);
        DUE.is("man now", x.clause(1, 3), 1);
        DUE.no(x, "press(4, 0)", x.press(4, 0), 1);
        DUE.no(x, "press(0, 2)", x.press(0, 2), 1);
        DUE.no(x, "press(-1, -1)", x.press(-1, -1), 1);
        DUE.is("refused ones are no acts", x.size(9), 8);
        DUE.is("wash(0)", x.wash(0), true);
        DUE.is("ink", x.clause(0, 4), 0);
        DUE.no(x, "wash(0) again", x.wash(0), 5);
        DUE.no(x, "wash(4)", x.wash(4), 1);
        DUE.is("turn(0)", x.turn(0), 1);
        DUE.is("press keeps it turned", x.press(0, 0), 0);
        DUE.is("turned", x.clause(0, 5), 1);
        DUE.is("keeps(0, 0)", x.keeps(0, 0), 1);
        DUE.is("turn(0)", x.turn(0), 0);
        DUE.no(x, "turn(4)", x.turn(4), 1);
        DUE.no(x, "turn(-1)", x.turn(-1), 1);
        x = DUE.told("city blur 4 slips 0 rain 0;man p;deed a;clause r on p ink 9 must a;clause s on p ink 8 mustnt a");
        DUE.is("r 5, s 8: press(1, 0)", x.press(1, 0), 0);
        DUE.is("r 1, s 8: press(1, 0)", x.press(1, 0), 1);
        DUE.is("r 0, s 8: press(0, 0)", x.press(0, 0), 0);
        DUE.is("r 9, s 4: press(0, 0)", x.press(0, 0), 2);
        CheekClause none = new CheekClause();
        DUE.no(none, "day()", none.day(), 1);
        DUE.no(none, "press(0, 0)", none.press(0, 0), 1);
        DUE.no(none, "wash(0)", none.wash(0), 1);
        DUE.no(none, "turn(0)", none.turn(0), 1);
    }

    private static void p47Years() {
        CheekClause x = DUE.told(BARE);
        for (int i = 0; i < 999; i++) {
            x.day();
        }
        DUE.is("size(8)", x.size(8), 999);
        DUE.no(x, "day()", x.day(), 3);
        DUE.is("size(8)", x.size(8), 999);
    }

    private static void p51Undo() {
        CheekClause x = DUE.told(PAIR);
        DUE.no(x, "undo()", x.undo(), 6);
        x.day();
        x.press(0, 1);
        x.wash(3);
        x.turn(2);
        DUE.is("undo of turn", x.undo(), true);
        DUE.is("trouble()", x.trouble(), 0);
        DUE.is("turned", x.clause(2, 5), 0);
        DUE.is("undo of wash", x.undo(), true);
        DUE.is("ink", x.clause(3, 4), 37);
        DUE.is("undo of press", x.undo(), true);
        DUE.is("man", x.clause(0, 3), 0);
        DUE.is("ink", x.clause(0, 4), 4);
        DUE.is("ink of the other", x.clause(3, 4), 39);
        DUE.is("undo of day", x.undo(), true);
        DUE.is("day", x.size(8), 0);
        DUE.is("ink", x.clause(0, 4), 5);
        DUE.no(x, "undo()", x.undo(), 6);
        for (int i = 1; i <= 20; i++) {
            x.day();
            DUE.is("size(9)", x.size(9), Math.min(i, 16));
        }
        for (int i = 0; i < 16; i++) {
            DUE.is("undo()", x.undo(), true);
            DUE.is("size(8)", x.size(8), 19 - i);
        }
        DUE.no(x, "undo() of the 17th", x.undo(), 6);
        DUE.is("size(8)", x.size(8), 4);
    }

    private static void p52And53Images() {
        CheekClause x = DUE.told(PAIR);
        DUE.no(x, "back(0)", x.back(0), 1);
        DUE.is("image()", x.image(), 0);
        x.day();
        x.turn(1);
        x.press(1, 1);
        DUE.is("image()", x.image(), 1);
        x.wash(3);
        DUE.is("image()", x.image(), 2);
        DUE.no(x, "image()", x.image(), 3);
        DUE.is("size(10)", x.size(10), 3);
        DUE.is("an image is no act", x.size(9), 4);
        DUE.is("back(0)", x.back(0), true);
        DUE.is("trouble()", x.trouble(), 0);
        DUE.is("day", x.size(8), 0);
        DUE.is("turned", x.clause(1, 5), 0);
        DUE.is("man", x.clause(1, 3), 0);
        DUE.is("nothing to undo", x.size(9), 0);
        DUE.no(x, "undo()", x.undo(), 6);
        DUE.is("all stay", x.size(10), 3);
        x.wash(0);
        DUE.is("back(1)", x.back(1), true);
        DUE.is("day", x.size(8), 1);
        DUE.is("turned", x.clause(1, 5), 1);
        DUE.is("man", x.clause(1, 3), 1);
        DUE.is("ink", x.clause(3, 4), 37);
        DUE.is("ink", x.clause(0, 4), 4);
        x.day();
        DUE.is("back(1), the image is as it was", x.back(1), true);
        DUE.is("ink", x.clause(3, 4), 37);
        DUE.is("back(2)", x.back(2), true);
        DUE.is("ink", x.clause(3, 4), 0);
        DUE.no(x, "back(3)", x.back(3), 1);
        DUE.no(x, "back(-1)", x.back(-1), 1);
        CheekClause none = new CheekClause();
        DUE.no(none, "image()", none.image(), 1);
        none.undo();
        DUE.no(none, "back(0)", none.back(0), 1);
    }

    private static int led(CheekClause x, int i) {
        try {
            return x.led(i);
        } catch (NoSuchElementException e) {
            return -77;
        }
    }

    private static void p54Led() {
        CheekClause x = DUE.told(PAIR);
        DUE.is("led(0)", led(x, 0), -77);
        x.wash(3);
        x.wash(1);
        x.undo();
        x.undo();
        x.wash(3);
        x.wash(1);
        x.wash(1);
        DUE.is("led(0)", led(x, 0), 1);
        DUE.is("led(1)", led(x, 1), 3);
        DUE.is("led(2)", led(x, 2), -77);
        DUE.is("led(-1)", led(x, -1), -77);
        DUE.is("led is none of the calls with a number", x.trouble(), 5);
        DUE.is("led(0) without a city", led(new CheekClause(), 0), -77);
    }

    private static void p55Size() {
        CheekClause x = DUE.told(PAIR);
        x.day();
        x.day();
        x.turn(0);
        x.image();
        x.image();
        x.feed(0, 0, 0, 0, 0);
        int[] want = {2, 0, 25, 2, 3, 4, 2, 2, 2, 3, 2, 20};
        for (int what = 0; what < 12; what++) {
            DUE.is("size(" + what + ")", x.size(what), want[what]);
        }
        x.turn(9);
        DUE.is("size(12)", x.size(12), -1);
        DUE.is("size(-1)", x.size(-1), -1);
        DUE.is("size is none of the calls with a number", x.trouble(), 1);
        DUE.is("slips", DUE.told(HEAD + "man p;deed a").size(1), 5);
    }

    private static void p56Trouble() {
        CheekClause x = DUE.told(PAIR);
        DUE.no(x, "undo()", x.undo(), 6);
        x.trouble();
        x.fault();
        x.where();
        x.size(0);
        x.feed(0, 0, 0, 0, 0);
        DUE.is("others leave it", x.trouble(), 6);
        x.ways(0);
        DUE.is("a call that was not refused", x.trouble(), 0);
        x.ways(9);
        x.mayOdds(0, 0, true);
        DUE.is("mayOdds, not refused", x.trouble(), 0);
        x.ways(9);
        x.freeOdds(0, true);
        DUE.is("freeOdds, not refused", x.trouble(), 0);
        x.ways(9);
        x.mean(0, true);
        DUE.is("mean, not refused", x.trouble(), 0);
        x.ways(9);
        x.odds(0, true);
        DUE.is("odds, not refused", x.trouble(), 0);
        x.ways(9);
        x.wash(0);
        DUE.is("wash, not refused", x.trouble(), 0);
        x.ways(9);
        x.bar(1);
        DUE.is("-2 is no refusal", x.trouble(), 0);
    }

    public static void main(String[] args) {
        DUE.about("promise 1");
        p1NewObject();
        DUE.about("promise 2");
        p2Feed();
        DUE.about("promise 3");
        p3City();
        DUE.about("promises 3 to 5");
        p4FaultsOfForm();
        p4OtherFaults();
        p4TextsWithout();
        p5Where();
        DUE.about("promise 6");
        p6Clause();
        DUE.about("promise 7");
        p7Man();
        DUE.about("promise 8");
        p8Keeps();
        DUE.about("promises 9 to 14");
        p9To14OneMan();
        DUE.about("promises 15, 16");
        p15And16Men();
        DUE.about("promises 17 to 20");
        p17To20BarsAndFrees();
        DUE.about("promises 21 to 23");
        p21To23WithoutOne();
        DUE.about("promises 24 to 26");
        p24To26Spread();
        DUE.about("promises 27 to 31");
        p27To31Days();
        DUE.about("promises 32 to 38");
        p32To38ReadWrongly();
        p32To38Edges();
        DUE.about("promises 39 to 41");
        p39To41Merchant();
        DUE.about("promises 42 to 44");
        p42To44Chance();
        DUE.about("promises 45, 46");
        p45And46Draws();
        DUE.about("promises 47 to 50");
        p47To50Acts();
        p47Years();
        DUE.about("promise 51");
        p51Undo();
        DUE.about("promises 52, 53");
        p52And53Images();
        DUE.about("promise 54");
        p54Led();
        DUE.about("promise 55");
        p55Size();
        DUE.about("promise 56");
        p56Trouble();
        DUE.end("PromiseTest");
    }
}
