/** Term I and promises 1 to 5: each sentence that names a bound, a FAULT or a refusal, by a test of its own. */
public final class TextEdgesTest {
    private static final String HEAD = "city blur 1 slips 5 rain 5;";
    private static final String BARE = "city blur 0 slips 0 rain 0;man p;deed a";
    /** Has a NAME of each sort: the man p, the deeds a and b, the clause s. */
    private static final String BASE = HEAD + "man p;deed a;deed b;clause s on p ink 5 must a";
    private static final String[] KEYWORDS = {"city", "man", "deed", "clause", "unsure", "did"};
    private static final String[] PAIR_FORMS = {"if", "unless", "notboth", "either"};
    private static final int TAPE = 900;

    private static final Due DUE = new Due();

    private TextEdgesTest() {
    }

    private static String repeated(char sign, int times) {
        return String.valueOf(sign).repeat(Math.max(0, times));
    }

    private static String lines(String before, String line, int times) {
        StringBuilder text = new StringBuilder(before);
        for (int i = 0; i < times; i++) {
            text.append(line.replace('#', (char) ('a' + i)));
        }
        return text.toString();
    }

    // ---- THE TAPE

    private static void newObjectHasNoCity() {
        DUE.about("1: No CITY");
        CheekClause x = new CheekClause();
        DUE.is("NONE", CheekClause.NONE, -1);
        DUE.is("trouble() of a new object", x.trouble(), 0);
        DUE.is("fault() of a new object", x.fault(), 0);
        DUE.is("where() of a new object", x.where(), -1);
        for (int what = 0; what <= 11; what++) {
            DUE.is("size(" + what + ")", x.size(what), 0);
        }
    }

    private static void tapeTakesTheHighestByteFirst() {
        DUE.about("2: Twenty bytes come behind THE TAPE, of each number the highest first");
        for (int before = 0; before < 2; before++) {
            for (int k = 0; k < 20; k++) {
                CheekClause x = new CheekClause();
                for (int i = 0; i < before; i++) {
                    x.feed(0x20202020, 0x20202020, 0x20202020, 0x20202020, 0x20202020);
                }
                int[] v = {0x20202020, 0x20202020, 0x20202020, 0x20202020, 0x20202020};
                int shift = 24 - 8 * (k % 4);
                v[k / 4] = v[k / 4] & ~(255 << shift) | 200 << shift;
                DUE.is("feed", x.feed(v[0], v[1], v[2], v[3], v[4]), 20 * before + 20);
                DUE.is("city", x.city(20 * before + 20), -1);
                DUE.is("where() of byte " + k, x.where(), 20 * before + k);
            }
        }
    }

    private static void tapeHas900Bytes() {
        DUE.about("2: NONE, and none comes, if there would be more than 900");
        CheekClause x = new CheekClause();
        Due.feed(x, BARE + repeated(' ', 880 - BARE.length()));
        DUE.is("size(11)", x.size(11), 880);
        DUE.is("feed up to 900", x.feed(0x20202020, 0x20202020, 0x20202020, 0x20202020, 0x20202020), 900);
        DUE.is("feed above 900", x.feed(0x23232323, 0x23232323, 0x23232323, 0x23232323, 0x23232323), -1);
        DUE.is("feed above 900, again", x.feed(0, 0, 0, 0, 0), -1);
        DUE.is("none came", x.size(11), 900);
        DUE.is("a refused feed tells no number", x.trouble(), 0);
        DUE.no(x, "city(901)", x.city(901), 2);
        DUE.is("city(900), nothing of it came", x.city(900), 1);
        DUE.is("empty then", x.size(11), 0);
        DUE.is("feed once it is empty", x.feed(0, 0, 0, 0, 0), 20);

        DUE.about("I: THE TAPE has 900 bytes");
        DUE.fine(repeated(' ', TAPE - BARE.length()) + BARE, 1);
        DUE.fine(BARE + repeated(' ', TAPE - BARE.length()), 1);
        DUE.faultAt(BARE + repeated(' ', TAPE - 1 - BARE.length()), ",", 1);
        DUE.faultAt(BARE + ";" + repeated(' ', TAPE - 1 - BARE.length()), "", 1);
    }

    private static void firstBytesAlone() {
        DUE.about("3: The first n bytes of THE TAPE (it is empty then)");
        CheekClause x = new CheekClause();
        Due.feed(x, BARE + "b;man q#");
        DUE.is("what stands behind n is not read", x.city(BARE.length()), 1);
        DUE.is("empty, with what stood behind n", x.size(11), 0);
        Due.feed(x, BARE + ";man q");
        DUE.is("city of all", x.city(BARE.length() + 6), 2);
        Due.feed(x, BARE);
        DUE.no(x, "a text cut off", x.city(BARE.length() - 2), 4);
        DUE.is("where()", x.where(), BARE.length() - 2);
        DUE.is("empty behind a FAULT, too", x.size(11), 0);
    }

    private static void numbersThatAreRefused() {
        DUE.about("3: NONE: 2 (THE TAPE stays)");
        CheekClause x = new CheekClause();
        DUE.refuses(x, "city(1) of an empty tape", 2, () -> x.city(1));
        Due.feed(x, BARE + " ");
        for (int n : new int[] {-1, -40, Integer.MIN_VALUE, 41, 900, 901, Integer.MAX_VALUE}) {
            DUE.refuses(x, "city(" + n + ")", 2, () -> x.city(n));
            DUE.is("the tape stays", x.size(11), 40);
            DUE.is("fault()", x.fault(), 0);
            DUE.is("where()", x.where(), -1);
        }
        DUE.answers(x, "city(40), all that it has", 1, () -> x.city(40));
        DUE.refuses(x, "city(0) of an empty tape", 4, () -> x.city(0));
        DUE.is("fault() of nothing", x.fault(), 1);
        DUE.is("where() of nothing", x.where(), 0);
    }

    private static void cityAnew() {
        DUE.about("3: are the CITY from now on (day 0; nothing TURNED, nothing to undo, no IMAGES)");
        CheekClause x = DUE.told(BASE + ";clause t on p ink 9 must b;unsure s;did p day 0 kept");
        x.day();
        x.turn(0);
        x.wash(1);
        x.image();
        x.image();
        DUE.is("a city anew", Due.tell(x, HEAD + "deed a;man p;man q;clause r on q ink 3 mustnt a"), 2);
        int[] want = {1, 5, 5, 2, 1, 1, 0, 0, 0, 0, 0, 0};
        for (int what = 0; what <= 11; what++) {
            DUE.is("size(" + what + ")", x.size(what), want[what]);
        }
        DUE.is("nothing TURNED", x.clause(0, 5), 0);
        DUE.is("its ink", x.clause(0, 4), 3);
        DUE.no(x, "undo()", x.undo(), 6);
        DUE.no(x, "back(0)", x.back(0), 1);
        DUE.no(x, "the second clause is gone", x.clause(1, 0), 1);
        DUE.no(x, "the third set is gone", x.may(0, 2), 2);
        DUE.no(x, "the unsure one is gone", x.odds(0, true), 1);
        DUE.is("the first image again", x.image(), 0);

        DUE.about("3: 4 (the CITY stays)");
        x.day();
        DUE.no(x, "city", Due.tell(x, BASE + ";city"), 4);
        int[] stays = {1, 5, 5, 2, 1, 1, 0, 0, 1, 1, 1, 0};
        for (int what = 0; what <= 11; what++) {
            DUE.is("size(" + what + ")", x.size(what), stays[what]);
        }
        DUE.is("form", x.clause(0, 0), 1);
        DUE.is("ink", x.clause(0, 4), 2);
        DUE.is("undo()", x.undo(), true);
        DUE.is("ink", x.clause(0, 4), 3);
        DUE.is("back(0)", x.back(0), true);
        CheekClause none = new CheekClause();
        DUE.no(none, "city", Due.tell(none, HEAD + "man p"), 4);
        DUE.no(none, "no CITY still", none.stuck(), 1);
        DUE.is("no men still", none.size(3), 0);
    }

    private static void nothingIsLeftOfOthers() {
        DUE.about("3: are the CITY from now on: nothing is left of one before, nor of a text with a FAULT");
        String full = "city blur 0 slips 9 rain 9;man ma;man mb;man mc;man md;deed a;deed b;deed c;deed d;deed e;deed f"
                + lines("", ";clause x# on ma ink 40 either e f", 8) + lines("", ";unsure x#", 5)
                + lines("", ";did mc day 40 breach a,f", 6);
        int[] bare = {0, 0, 0, 1, 1, 0, 0, 0, 0, 0, 0, 0};
        CheekClause x = new CheekClause();
        for (int round = 0; round < 3; round++) {
            DUE.is("the full one", Due.tell(x, full), 4);
            if (round > 0) {
                DUE.no(x, "one with a FAULT at its end", Due.tell(x, full + ";"), 4);
            }
            DUE.is("a bare one", Due.tell(x, BARE), 1);
            for (int what = 0; what <= 11; what++) {
                DUE.is("size(" + what + ")", x.size(what), bare[what]);
            }
            DUE.is("clauses on him", x.man(0, 0), 0);
            DUE.is("clauses that BIND him", x.man(0, 1), 0);
            DUE.is("spread()", x.spread(), 0);
            DUE.is("together()", x.together(), 0);
            DUE.is("rained(0, 0)", x.rained(0, 0), 0);
            DUE.is("day()", x.day(), 0);
            DUE.is("fits()", x.fits(), 1);
            DUE.is("ways(0)", x.ways(0), 2);
        }
    }

    private static void howManyMen() {
        DUE.about("3: how many men");
        for (int men = 1; men <= 4; men++) {
            DUE.fine(lines(HEAD + "deed z", ";man #", men), men);
        }
    }

    private static void faultOfTheLatest() {
        DUE.about("4: The FAULT of the latest city() not refused by 2; 0 without one");
        CheekClause x = new CheekClause();
        Due.tell(x, "man");
        DUE.is("fault()", x.fault(), 6);
        x.city(1);
        DUE.is("fault() behind a refusal by 2", x.fault(), 6);
        x.day();
        x.undo();
        DUE.is("fault() behind other calls", x.fault(), 6);
        Due.tell(x, HEAD + "man man");
        DUE.is("fault() of the next", x.fault(), 1);
        Due.tell(x, BARE);
        DUE.is("fault() without one", x.fault(), 0);
        x.city(-1);
        DUE.is("fault() without one, behind a refusal by 2", x.fault(), 0);

        DUE.about("5: Its place, if the latest call that may be refused was by 4; NONE else");
        Due.tell(x, HEAD + "man p;man p");
        DUE.is("where()", x.where(), HEAD.length() + 10);
        DUE.is("where() again", x.where(), HEAD.length() + 10);
        x.feed(0, 0, 0, 0, 0);
        x.fault();
        x.size(3);
        x.size(-1);
        x.trouble();
        try {
            x.led(0);
        } catch (java.util.NoSuchElementException e) {
            DUE.is("where() behind led", x.where(), HEAD.length() + 10);
        }
        x.city(21);
        DUE.is("where() behind a refusal by 2", x.where(), -1);
        Due.tell(x, BARE + ";");
        x.ways(0);
        DUE.is("where() behind a call that was not refused", x.where(), -1);
        Due.tell(x, BARE + ";");
        x.ways(1);
        DUE.is("where() behind a call refused by 1", x.where(), -1);
        Due.tell(x, "");
        DUE.is("where() of a FAULT at place 0", x.where(), 0);
    }

    // ---- TOKENS

    private static void blanks() {
        DUE.about("I: blanks, 32, part TOKENS and mean nothing else");
        DUE.fine("   city   blur 0   slips 0 rain   0  ;  man   p ;deed a   ", 1);
        DUE.fine("city blur0slips0rain0;man p;deed a;clause c on p ink40must a;did p day0kept a", 1);
        DUE.faultAt("", "ci ty blur 0 slips 0 rain 0;man p;deed a", 1);
        DUE.faultAt("city blur 0 slips 0 rain ", "manp", 1);
        DUE.faultAt("", "cityblur 0 slips 0 rain 0;man p;deed a", 1);
        DUE.faultAt("city blur 0 slips 1 ", "0 rain 0;man p;deed a", 1);
        for (int sign : new int[] {0, 9, 10, 13, 31, 33, 160}) {
            DUE.faultAt("city", (char) sign + "blur 0 slips 0 rain 0;man p;deed a", 1);
        }
    }

    private static void bytesOfTokens() {
        DUE.about("I: 1 FORM: the first byte that begins no TOKEN");
        for (int sign = 0; sign < 256; sign++) {
            String text = String.valueOf((char) sign);
            boolean isLetter = sign >= 'a' && sign <= 'z';
            if (sign == ' ') {
                DUE.fine(text + BARE, 1);
                DUE.fine(BARE + text, 1);
            } else if (isLetter) {
                DUE.fine(BARE + text, 1);
                DUE.faultAt("", text + BARE, 1);
            } else if (sign == ';') {
                DUE.faultAt(BARE + text, "", 1);
                DUE.faultAt("", text + BARE, 1);
            } else {
                DUE.faultAt(BARE, text, 1);
                DUE.faultAt("", text + BARE, 1);
                DUE.faultAt(BASE + ";did p day 1 kept ", text, 1);
            }
            if (sign == ',') {
                DUE.fine(BASE + ";did p day 1 kept a" + text + "b", 1);
            } else if (!isLetter && sign != ' ' && sign != ';') {
                DUE.faultAt(BASE + ";did p day 1 kept a", text + "b", 1);
            }
        }
        DUE.faultAt(HEAD + "man p", "#;deed a", 1);
        DUE.faultAt(HEAD + "man ", "P;deed a", 1);
        DUE.faultAt(HEAD + "man p", "Q;deed a", 1);
    }

    private static void lengthsOfWords() {
        DUE.about("I: WORDS of 1 to 8 small letters that stand together");
        for (int length = 1; length <= 8; length++) {
            DUE.fine(HEAD + "man " + repeated('z', length) + ";deed a", 1);
        }
        for (int length : new int[] {9, 10, 16, 17, 40, 800}) {
            DUE.faultAt(HEAD + "man ", repeated('z', length), 1);
        }
        DUE.fine(HEAD + "man abcdefgh;man abcdefgi;man abcdefg;man h;deed a", 4);
        DUE.faultAt(HEAD + "man abcdefgh;deed a;clause c on ", "abcdefghi ink 1 must a", 1);
        DUE.faultAt(HEAD + "man abcdefgh;man ", "abcdefgh", 3);
        DUE.fine(HEAD + "man a;man aa;man aaa;man b;deed ab;deed ba;deed z;deed za;deed az;deed zz", 4);
        DUE.faultAt("", "cityy blur 0", 1);
        DUE.faultAt("", "cit blur 0", 1);
    }

    private static void lengthsOfWholes() {
        DUE.about("I: WHOLES of 1 to 3 digits that do");
        DUE.fine("city blur 9 slips 09 rain 009;man p;deed a", 1);
        DUE.fine("city blur 000 slips 100 rain 00;man p;deed a", 1);
        DUE.faultAt("city blur ", "0000 slips 0", 1);
        DUE.faultAt("city blur ", "0009 slips 0", 1);
        DUE.faultAt("city blur ", "4294967297 slips 0", 1);
        DUE.faultAt("city blur ", "18446744073709551617 slips 0", 1);
        DUE.faultAt("city blur ", repeated('0', 800), 1);
        DUE.faultAt("city blur ", "/1 slips 0", 1);
        DUE.faultAt("city blur ", ":1 slips 0", 1);
        DUE.faultAt("city blur ", "-1 slips 0", 1);
        CheekClause x = DUE.told("city blur 007 slips 012 rain 099;man p;deed a");
        DUE.is("007", x.size(0), 7);
        DUE.is("012", x.size(1), 12);
        DUE.is("099", x.size(2), 99);
    }

    private static void linesAndSemicolons() {
        DUE.about("I: LINE {; LINE}");
        DUE.faultAt("", "", 1);
        DUE.faultAt("     ", "", 1);
        DUE.faultAt("", ";" + BARE, 1);
        DUE.faultAt(BARE + ";", "", 1);
        DUE.faultAt(BARE + ";   ", "", 1);
        DUE.faultAt(BARE + ";", ";man q", 1);
        DUE.faultAt(BARE, ",man q", 1);
        DUE.faultAt(BARE + " ", "man q", 1);
        DUE.faultAt(BARE + ";", "town q", 1);
        DUE.faultAt(BARE + ";", "5", 1);
        DUE.faultAt(BARE + ";", "p", 1);
        DUE.faultAt(BARE + ";", "kept", 1);
    }

    private static void endOfEachLine() {
        DUE.about("I: TOKEN with which no CITY goes on (the end: its place)");
        String[] whole = {
            "city blur 0 slips 0 rain 0", HEAD + "man p", HEAD + "man p;deed a", BASE,
            BASE + ";clause t on p ink 5 if a b", BASE + ";unsure s", BASE + ";did p day 1 kept a,b"};
        for (String text : whole) {
            String line = text.substring(text.lastIndexOf(';') + 1);
            String before = text.substring(0, text.length() - line.length());
            // cut off ahead of each blank and comma: what is left of the line can't end a text, unless it's a did
            for (int i = 0; i < line.length(); i++) {
                String part = line.substring(0, i);
                boolean isCut = line.charAt(i) == ' ' || i > 0 && line.charAt(i - 1) == ',';
                if (isCut && !part.endsWith("kept") && !part.endsWith("a b")) {
                    DUE.faultAt(before + part, "", 1);
                    DUE.faultAt(before + part + "  ", "", 1);
                    DUE.faultAt(before + part, ";man q", 1);
                    DUE.faultAt(before + part + " ", "#", 1);
                }
            }
            DUE.faultAt(text + " ", "0", 1);
            DUE.faultAt(text + " ", "did", 1);
            DUE.faultAt(text + " ", "q", 1);
        }
    }

    // ---- LINES with their bounds

    private static void cityLine() {
        DUE.about("I: city blur WHOLE slips WHOLE rain WHOLE (0 .. 9; 0 .. 100 in a hundred each)");
        String rest = ";man p;deed a";
        DUE.fine("city blur 0 slips 0 rain 0" + rest, 1);
        DUE.fine("city blur 9 slips 100 rain 100" + rest, 1);
        DUE.faultAt("city blur ", "slips 0 rain 0" + rest, 1);
        DUE.faultAt("city ", "slips 0 blur 0 rain 0" + rest, 1);
        DUE.faultAt("city blur 0 ", "rain 0 slips 0" + rest, 1);
        DUE.faultAt("city blur 0 slips 0", rest, 1);
        DUE.faultAt("city ", "p blur 0 slips 0 rain 0" + rest, 1);

        DUE.about("I: 4 a WHOLE out of bounds; at it");
        for (int over : new int[] {10, 11, 99, 100, 999}) {
            DUE.faultAt("city blur ", over + " slips 0 rain 0" + rest, 4);
        }
        for (int over : new int[] {101, 102, 200, 999}) {
            DUE.faultAt("city blur 0 slips ", over + " rain 0" + rest, 4);
            DUE.faultAt("city blur 0 slips 0 rain ", over + rest, 4);
        }
    }

    private static void cityAheadOfAll() {
        DUE.about("I: 6 LACKS: any LINE ahead of the city; at its WORD");
        String city = "city blur 0 slips 0 rain 0";
        String[] ahead = {"man p", "deed a", "clause c on p ink 1 must a", "unsure c", "did p day 0 kept"};
        for (String line : ahead) {
            DUE.faultAt("", line + ";" + city + ";man q;deed b", 6);
            DUE.faultAt("  ", line, 6);
        }
        DUE.faultAt("", "man", 6);
        DUE.faultAt("", "did 5", 6);

        DUE.about("I: a second city: at that WORD");
        DUE.faultAt(city + ";", city + ";man p;deed a", 3);
        DUE.faultAt(BARE + ";", city, 3);
        DUE.faultAt(BARE + ";", "city", 3);
        DUE.faultAt(BARE + ";  ", "city blur 99", 3);

        DUE.about("I: at the end: no man, or no deed");
        DUE.faultAt(city, "", 6);
        DUE.faultAt(city + ";man p", "", 6);
        DUE.faultAt(city + ";deed a", "", 6);
        DUE.faultAt(city + ";man p  ", "", 6);
        DUE.faultAt(city + ";man p;did p day 0 kept", "", 6);
        DUE.faultAt(city + ";man p;", "", 1);
        DUE.fine(city + ";deed a;man p", 1);
    }

    private static void manyLines() {
        DUE.about("I: 5 MANY: a LINE more of its sort than there is room for, at its first WORD: man");
        String men = lines("city blur 0 slips 0 rain 0;deed z", ";man #", 4);
        DUE.fine(men, 4);
        DUE.faultAt(men + ";", "man e", 5);
        DUE.faultAt(men + ";", "man a", 5);
        DUE.faultAt(men + "; ", "man", 5);
        DUE.about("I: 5 MANY: deed");
        String deeds = lines("city blur 0 slips 0 rain 0;man z", ";deed #", 6);
        DUE.fine(deeds, 1);
        DUE.is("six deeds", DUE.told(deeds).size(4), 6);
        DUE.faultAt(deeds + ";", "deed g", 5);
        DUE.faultAt(deeds + ";", "deed", 5);
        DUE.about("I: 5 MANY: clause");
        String clauses = lines(BARE, ";clause x# on p ink 1 must a", 8);
        DUE.fine(clauses, 1);
        DUE.is("eight clauses", DUE.told(clauses).size(5), 8);
        DUE.faultAt(clauses + ";", "clause xi on p ink 1 must a", 5);
        DUE.faultAt(clauses + ";", "clause 5", 5);
        DUE.about("I: 5 MANY: unsure");
        String unsure = lines(clauses, ";unsure x#", 5);
        DUE.fine(unsure, 1);
        DUE.is("five unsure ones", DUE.told(unsure).size(6), 5);
        DUE.faultAt(unsure + ";", "unsure xf", 5);
        DUE.faultAt(unsure + ";", "unsure xa", 5);
        DUE.about("I: 5 MANY: did");
        String dids = lines(BARE, ";did p day 0 kept", 6);
        DUE.fine(dids, 1);
        DUE.is("six of what was done", DUE.told(dids).size(7), 6);
        DUE.faultAt(dids + ";", "did p day 0 kept", 5);
        DUE.faultAt(dids + ";", "did nobody", 5);
        DUE.about("I: room of one sort is no room of another");
        DUE.fine("city blur 0 slips 0 rain 0;man ma;man mb;man mc;man md;deed a;deed b;deed c;deed d;deed e;deed f"
                + lines("", ";clause x# on md ink 40 either e f", 8) + lines("", ";unsure x#", 5)
                + lines("", ";did mc day 40 breach a,f", 6), 4);
    }

    private static void clauseLine() {
        String base = BASE + ";clause t on p ink ";
        DUE.about("I: clause .. ink WHOLE (1 .. 40)");
        DUE.fine(base + "1 must a", 1);
        DUE.fine(base + "40 must a", 1);
        for (int out : new int[] {0, 41, 42, 100, 999}) {
            DUE.faultAt(base, out + " must a", 4);
        }
        DUE.faultAt(base, "000 must a", 4);
        DUE.about("I: FORM of one: must, or mustnt");
        for (String form : new String[] {"must", "mustnt"}) {
            DUE.fine(base + "5 " + form + " b", 1);
            DUE.faultAt(base + "5 " + form + " b ", "a", 1);
            DUE.faultAt(base + "5 " + form + " b", ",a", 1);
        }
        DUE.about("I: of two unlike ones: if, unless, notboth, or either");
        for (String form : PAIR_FORMS) {
            DUE.fine(base + "5 " + form + " b a", 1);
            DUE.faultAt(base + "5 " + form + " b", "", 1);
            DUE.faultAt(base + "5 " + form + " b", ";man q", 1);
            DUE.faultAt(base + "5 " + form + " b", ",a", 1);
            DUE.faultAt(base + "5 " + form + " b a ", "b", 1);
            DUE.faultAt(base + "5 " + form + " b ", "b", 3);
        }
        for (String form : new String[] {"may", "mus", "musts", "ifs", "both", "a", "on", "did"}) {
            DUE.faultAt(base + "5 ", form + " a b", 1);
        }
        DUE.about("I: clause NAME on MAN ink WHOLE");
        // on is a NAME there, so it is the next TOKEN that is none
        DUE.faultAt(BASE + ";clause on ", "p ink 5 must a", 1);
        DUE.faultAt(BASE + ";clause t ", "in p ink 5 must a", 1);
        DUE.faultAt(BASE + ";clause t on p ", "on 5 must a", 1);
        DUE.faultAt(BASE + ";clause t on p ink ", "must a", 1);
    }

    private static void wordsLeftOut() {
        DUE.about("I: TOKEN with which no CITY goes on: a WORD or a WHOLE of a LINE left out");
        DUE.faultAt("city ", "0 slips 0 rain 0;man p;deed a", 1);
        DUE.faultAt("city blur 0 ", "0 rain 0;man p;deed a", 1);
        DUE.faultAt("city blur 0 slips 0 ", "0;man p;deed a", 1);
        DUE.faultAt("city ", "slips 0 rain 0;man p;deed a", 1);
        DUE.faultAt("city blur 0 ", "rain 0;man p;deed a", 1);
        DUE.faultAt(BASE + ";clause t ", "ink 5 must a", 1);
        DUE.faultAt(BASE + ";clause t ", "p ink 5 must a", 1);
        DUE.faultAt(BASE + ";clause t on p ", "must a", 1);
        DUE.faultAt(BASE + ";clause t on p ", "5 must a", 1);
        DUE.faultAt(BASE + ";clause t on p ink 5 ", "a", 1);
        DUE.faultAt(BASE + ";did p ", "kept a", 1);
        DUE.faultAt(BASE + ";did p ", "1 kept a", 1);
        DUE.faultAt(BASE + ";did p day ", "kept a", 1);
        DUE.faultAt(BASE + ";did p day 1 ", "a", 1);
    }

    private static void unsureLine() {
        DUE.about("I: unsure CLAUSE (each once)");
        String base = BASE + ";clause t on p ink 5 must b";
        DUE.fine(base + ";unsure t;unsure s", 1);
        DUE.faultAt(base + ";unsure t;unsure ", "t", 3);
        DUE.faultAt(base + ";unsure t;unsure s;unsure ", "t", 3);
        DUE.faultAt(base + ";unsure t ", "s", 1);
        DUE.faultAt(base + ";unsure t", ",s", 1);
        DUE.about("I: 3 a CLAUSE unsure already; at it: each of four, in a city of one man and one deed");
        String four = lines(lines(BARE, ";clause x# on p ink 1 must a", 5), ";unsure x#", 4) + ";unsure ";
        for (String name : new String[] {"xa", "xb", "xc", "xd"}) {
            DUE.faultAt(four, name, 3);
        }
        DUE.fine(four + "xe", 1);
    }

    private static void rowsApart() {
        DUE.about("I: each LINE is kept as told, however many others there are");
        CheekClause x = DUE.told("city blur 0 slips 0 rain 0;man ma;man mb;man mc;man md;deed a;deed b;deed c;deed d;deed e;deed f;"
                + "clause xa on md ink 1 if a f;clause xb on mc ink 2 unless b a;clause xc on mb ink 3 notboth c d;"
                + "clause xd on ma ink 4 either d b;clause xe on md ink 5 must e;clause xf on mc ink 6 mustnt f;"
                + "clause xg on mb ink 7 if f e;clause xh on ma ink 8 must a;"
                + "unsure xh;unsure xf;unsure xe;unsure xb;unsure xa;"
                + "did ma day 0 kept a,b;did mb day 40 kept;did mc day 1 breach f;did md day 2 kept e;did ma day 5 kept a;did md day 0 kept e");
        int[][] want = {{2, 0, 5, 3, 1}, {3, 1, 0, 2, 2}, {4, 2, 3, 1, 3}, {5, 3, 1, 0, 4},
            {0, 4, -2, 3, 5}, {1, 5, -2, 2, 6}, {2, 5, 4, 1, 7}, {0, 0, -2, 0, 8}};
        for (int c = 0; c < want.length; c++) {
            for (int what = 0; what < 5; what++) {
                DUE.is("clause(" + c + ", " + what + ")", x.clause(c, what), want[c][what]);
            }
        }
        int[] sizes = {0, 0, 0, 4, 6, 8, 5, 6};
        for (int what = 0; what < sizes.length; what++) {
            DUE.is("size(" + what + ")", x.size(what), sizes[what]);
        }
        // neither xh nor xe can be turned, by what ma and md did; nor can xf and xb both, by which mc had done no breach
        int[] fitting = {0, 2, 8, 16, 16 + 2, 16 + 8};
        DUE.is("fits()", x.fits(), fitting.length);
        for (int i = 0; i < fitting.length; i++) {
            DUE.is("fitAt(" + i + ")", x.fitAt(i), fitting[i]);
        }
        DUE.is("judge()", x.judge(), -2);
    }

    private static void anyOrder() {
        DUE.about("I: LINES of all sorts in any order, each NAME ahead of its use");
        CheekClause x = DUE.told("city blur 0 slips 0 rain 0;deed a;man p" + lines("", ";did p day 1 kept", 6)
                + lines("", ";clause x# on p ink 9 mustnt a", 5) + lines("", ";unsure x#", 5)
                + ";deed b;man q;clause s on q ink 7 if b a;man r;deed c;clause t on r ink 8 either c b;clause u on p ink 9 must c");
        int[] sizes = {0, 0, 0, 3, 3, 8, 5, 6, 0, 0, 0, 0};
        for (int what = 0; what < sizes.length; what++) {
            DUE.is("size(" + what + ")", x.size(what), sizes[what]);
        }
        DUE.is("man of the sixth", x.clause(5, 3), 1);
        DUE.is("first deed of the sixth", x.clause(5, 1), 1);
        DUE.is("second deed of the sixth", x.clause(5, 2), 0);
        DUE.is("man of the seventh", x.clause(6, 3), 2);
        DUE.is("deed of the eighth", x.clause(7, 1), 2);
        // what was done is held against the clauses of the whole text: must c is one of them
        DUE.is("judge()", x.judge(), 0);
        DUE.is("fits()", x.fits(), 0);
    }

    private static void didLine() {
        DUE.about("I: did MAN day WHOLE HOW (0 .. 40)");
        DUE.fine(BASE + ";did p day 0 kept", 1);
        DUE.fine(BASE + ";did p day 40 breach", 1);
        for (int over : new int[] {41, 42, 100, 999}) {
            DUE.faultAt(BASE + ";did p day ", over + " kept", 4);
        }
        DUE.about("I: HOW: kept, or breach");
        for (String how : new String[] {"keep", "keptt", "breac", "breachs", "a", "man", ";"}) {
            DUE.faultAt(BASE + ";did p day 1 ", how, 1);
        }
        DUE.about("I: just these deeds, unlike ones, or none");
        String six = lines("city blur 0 slips 0 rain 0;man p", ";deed #", 6);
        DUE.fine(six + ";did p day 1 kept a,b,c,d,e,f", 1);
        DUE.fine(six + ";did p day 1 breach f ,e , d,  c,b,a ", 1);
        DUE.fine(six + ";did p day 1 kept;did p day 1 breach", 1);
        DUE.faultAt(six + ";did p day 1 kept a,b,c,d,e,f ", "a", 1);
        DUE.faultAt(six + ";did p day 1 kept a,b,c,d,e,f,", "a", 3);
        DUE.faultAt(six + ";did p day 1 kept a,b,c,d,e,f,", "", 1);
        DUE.faultAt(six + ";did p day 1 kept a,", "a", 3);
        DUE.faultAt(six + ";did p day 1 breach f,a,", "f", 3);
        DUE.faultAt(six + ";did p day 1 kept ", ",a", 1);
        DUE.faultAt(six + ";did p day 1 kept a,", ",b", 1);
        DUE.faultAt(six + ";did p day 1 kept a,", ";man q", 1);
        DUE.faultAt(six + ";did p day 1 kept a ", "b", 1);
        DUE.faultAt(six + ";did p day 1 kept a,", "7", 1);
        DUE.fine(six + ";did p day 1 kept a;did p day 1 kept a;did p day 1 breach a", 1);
    }

    // ---- NAMES

    private static void namesAndKeywords() {
        DUE.about("I: NAMES are WORDS but city, man, deed, clause, unsure, did");
        for (String word : KEYWORDS) {
            DUE.faultAt(HEAD + "man ", word, 1);
            DUE.faultAt(HEAD + "deed ", word, 1);
            DUE.faultAt(BASE + ";clause ", word + " on p ink 1 must a", 1);
            DUE.faultAt(BASE + ";clause t on ", word + " ink 1 must a", 1);
            DUE.faultAt(BASE + ";clause t on p ink 1 must ", word, 1);
            DUE.faultAt(BASE + ";clause t on p ink 1 if a ", word, 1);
            DUE.faultAt(BASE + ";unsure ", word, 1);
            DUE.faultAt(BASE + ";did ", word + " day 1 kept", 1);
            DUE.faultAt(BASE + ";did p day 1 kept ", word, 1);
            DUE.faultAt(BASE + ";did p day 1 kept a,", word, 1);
        }
        String[] others = {"blur", "slips", "rain", "on", "ink", "must", "mustnt", "if", "unless", "notboth", "either",
            "day", "kept", "breach", "cit", "citys", "men", "deeds"};
        for (String word : others) {
            DUE.fine(HEAD + "man " + word + ";deed x;clause c on " + word + " ink 1 must x;did " + word + " day 1 kept", 1);
            DUE.fine(HEAD + "man x;deed " + word + ";clause c on x ink 1 must " + word + ";did x day 1 kept " + word, 1);
            DUE.fine(BASE + ";clause " + word + " on p ink 1 must a;unsure " + word, 1);
        }
    }

    private static void namesNotTold() {
        DUE.about("I: 2 a NAME that isn't told, or is of another sort than must stand there; at it");
        // x is told by nobody; of the others only the right sort may stand there
        for (String name : new String[] {"x", "a", "s", "t"}) {
            DUE.faultAt(BASE + ";clause t on ", name + " ink 1 must a", 2);
        }
        for (String name : new String[] {"x", "p", "s", "t"}) {
            DUE.faultAt(BASE + ";clause t on p ink 1 must ", name, 2);
            DUE.faultAt(BASE + ";clause t on p ink 1 mustnt ", name, 2);
            DUE.faultAt(BASE + ";clause t on p ink 1 if ", name + " a", 2);
            DUE.faultAt(BASE + ";clause t on p ink 1 either a ", name, 2);
        }
        for (String name : new String[] {"x", "p", "a"}) {
            DUE.faultAt(BASE + ";unsure ", name, 2);
        }
        for (String name : new String[] {"x", "a", "s"}) {
            DUE.faultAt(BASE + ";did ", name + " day 1 kept", 2);
        }
        for (String name : new String[] {"x", "p", "s"}) {
            DUE.faultAt(BASE + ";did p day 1 kept ", name, 2);
            DUE.faultAt(BASE + ";did p day 1 breach a,", name + ",b", 2);
        }
        DUE.about("I: each told once, ahead of its use");
        DUE.faultAt(HEAD + "deed a;clause c on ", "p ink 1 must a;man p", 2);
        DUE.faultAt(HEAD + "man p;clause c on p ink 1 must ", "a;deed a", 2);
        DUE.faultAt(HEAD + "man p;deed a;unsure ", "c;clause c on p ink 1 must a", 2);
        DUE.faultAt(HEAD + "deed a;did ", "p day 1 kept;man p", 2);
        DUE.faultAt(HEAD + "man p;did p day 1 kept ", "a;deed a", 2);
        // a name of the city before, or of a text with a FAULT, is not told
        CheekClause x = DUE.told(BASE);
        String next = HEAD + "man q;deed a;clause s on ";
        DUE.no(x, "city", Due.tell(x, next + "p ink 1 must a"), 4);
        DUE.is("fault()", x.fault(), 2);
        DUE.is("where()", x.where(), next.length());
        DUE.is("the same names in the next city", Due.tell(x, HEAD + "man q;deed a;clause s on q ink 1 must a"), 1);
    }

    private static void namesToldAgain() {
        DUE.about("I: 3 a NAME told again; at it");
        for (String name : new String[] {"p", "a", "b", "s"}) {
            DUE.faultAt(BASE + ";man ", name, 3);
            DUE.faultAt(BASE + ";deed ", name, 3);
            DUE.faultAt(BASE + ";clause ", name + " on p ink 1 must a", 3);
        }
        DUE.faultAt(HEAD + "man p;man q;man r;man ", "p", 3);
        DUE.faultAt(lines(HEAD + "man p", ";deed #", 5) + ";deed ", "e", 3);
    }

    // ---- the first FAULT

    private static void firstFromTheLeft() {
        DUE.about("I: FAULTS, the first that is met from the left");
        DUE.faultAt("city blur ", "10 slips 101 rain 101", 4);
        DUE.faultAt(BASE + ";clause ", "p on x ink 0 may x", 3);
        DUE.faultAt(BASE + ";clause t on ", "x ink 0 may x", 2);
        DUE.faultAt(BASE + ";clause t on p ink ", "0 may x", 4);
        DUE.faultAt(BASE + ";clause t on p ink 1 ", "may x", 1);
        DUE.faultAt(BASE + ";clause t on p ink 1 if ", "x x", 2);
        DUE.faultAt(BASE + ";did ", "x day 41 held", 2);
        DUE.faultAt(BASE + ";did p day ", "41 held", 4);
        DUE.faultAt(BASE + ";did p day 1 kept a,", "a,x", 3);
        DUE.faultAt(BASE + ";did p day 1 kept ", "x,a,a", 2);
        DUE.faultAt(BASE + ";unsure ", "x #", 2);
        DUE.faultAt("", "man p #", 6);
        DUE.faultAt(HEAD + "man p;man ", "p;#", 3);
        DUE.about("I: of one place the least number");
        DUE.faultAt("city blur 0 slips 0 rain 0;", "", 1);
        DUE.faultAt("city blur 0 slips 0 rain", "", 1);
        DUE.faultAt(HEAD + "man", "", 1);
        DUE.faultAt(HEAD + "deed a;", "", 1);
    }

    public static void main(String[] args) {
        newObjectHasNoCity();
        tapeTakesTheHighestByteFirst();
        tapeHas900Bytes();
        firstBytesAlone();
        numbersThatAreRefused();
        cityAnew();
        nothingIsLeftOfOthers();
        howManyMen();
        faultOfTheLatest();
        blanks();
        bytesOfTokens();
        lengthsOfWords();
        lengthsOfWholes();
        linesAndSemicolons();
        endOfEachLine();
        cityLine();
        cityAheadOfAll();
        manyLines();
        clauseLine();
        wordsLeftOut();
        unsureLine();
        rowsApart();
        anyOrder();
        didLine();
        namesAndKeywords();
        namesNotTold();
        namesToldAgain();
        firstFromTheLeft();
        DUE.end("TextEdgesTest");
    }
}
