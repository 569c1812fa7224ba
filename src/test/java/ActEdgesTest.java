import java.util.NoSuchElementException;

/** Term IV and promises 47 to 56 (acts, what is told): each bound or refusal by a test of its own. */
public final class ActEdgesTest {
    private static final String BARE = "city blur 0 slips 0 rain 0;man p;deed a";
    private static final int THROWS = -77;

    private static final Due DUE = new Due();

    private ActEdgesTest() {
    }

    private static CheekClause city(int blur, String... lines) {
        return DUE.told(Due.city(blur, 0, 0, "man p;man q;deed a;deed b;" + String.join(";", lines)));
    }

    private static void inks(CheekClause x, int... want) {
        for (int c = 0; c < want.length; c++) {
            DUE.is("ink of clause " + c, x.clause(c, 4), want[c]);
        }
    }

    // ---- promise 47

    private static void day() {
        DUE.about("47: DAY: clauses that BIND no more by it, as bits");
        CheekClause x = city(0, "clause r on p ink 1 must a", "clause s on q ink 2 must a", "clause t on p ink 1 must a",
                "clause u on p ink 40 must a");
        DUE.answers(x, "two of them", 5, () -> x.day());
        inks(x, 0, 1, 0, 39);
        DUE.answers(x, "one; not those that bound no more before", 2, () -> x.day());
        inks(x, 0, 0, 0, 38);
        DUE.answers(x, "none", 0, () -> x.day());
        inks(x, 0, 0, 0, 37);
        DUE.is("size(8)", x.size(8), 3);
        DUE.is("each is an ACT", x.size(9), 3);
        CheekClause bare = DUE.told(BARE);
        DUE.answers(bare, "no clause", 0, () -> bare.day());
        DUE.is("size(8)", bare.size(8), 1);
        DUE.about("47: NONE: 1 (no CITY)");
        CheekClause none = new CheekClause();
        DUE.refuses(none, "day()", 1, () -> none.day());
        DUE.is("no day went by", none.size(8), 0);
        DUE.is("no ACT", none.size(9), 0);
    }

    private static void daysWithinTheCalls() {
        DUE.about("47: days as many as an object's 512 calls let go by");
        CheekClause x = new CheekClause();
        Due.feed(x, BARE);
        x.city(BARE.length());
        for (int i = 1; i <= 508; i++) {
            DUE.is("day() " + i, x.day(), 0);
        }
        // two feeds, city, 508 days: this is the 512th call
        DUE.is("size(8)", x.size(8), 508);
        DUE.about("47: 3 (999 went by)");
        CheekClause y = DUE.told(BARE);
        for (int i = 0; i < 998; i++) {
            y.day();
        }
        DUE.answers(y, "the 999th", 0, () -> y.day());
        DUE.is("size(8)", y.size(8), 999);
        DUE.refuses(y, "one more", 3, () -> y.day());
        DUE.is("size(8)", y.size(8), 999);
        DUE.is("the refused one is no ACT", y.undo(), true);
        DUE.is("size(8)", y.size(8), 998);
        DUE.answers(y, "the 999th again", 0, () -> y.day());
    }

    // ---- promise 48

    private static void press() {
        String lines = "clause r on p ink 9 must a;clause s on p ink 8 must b;clause t on p ink 12 must a;clause u on q ink 20 must b";
        DUE.about("III: PRESS anew on its own one: blurring all others on him, INK as told then");
        CheekClause x = city(4, lines);
        inks(x, 1, 4, 12, 20);
        DUE.answers(x, "press(0, 0)", 2, () -> x.press(0, 0));
        inks(x, 9, 0, 8, 20);
        DUE.answers(x, "again: it doesn't blur itself", 0, () -> x.press(0, 0));
        inks(x, 9, 0, 4, 20);
        DUE.about("48: others that BIND no more by it, as bits; not those without INK before");
        DUE.answers(x, "once more", 4, () -> x.press(0, 0));
        DUE.answers(x, "none is left", 0, () -> x.press(0, 0));
        DUE.about("III: PRESS on another one: blurring all others on him");
        DUE.answers(x, "press(0, 1)", 0, () -> x.press(0, 1));
        DUE.is("its man", x.clause(0, 3), 1);
        inks(x, 9, 0, 0, 16);
        DUE.is("on the first one no more", x.man(0, 0), 6);
        DUE.is("on the other", x.man(1, 0), 9);
        DUE.answers(x, "one without INK has it again", 0, () -> x.press(1, 0));
        inks(x, 9, 8, 0, 16);
        DUE.answers(x, "and goes over with it", 0, () -> x.press(1, 1));
        inks(x, 5, 8, 0, 12);
        DUE.about("III: PRESS: those on the man it leaves are not blurred");
        CheekClause z = city(4, lines);
        DUE.answers(z, "press(2, 1)", 0, () -> z.press(2, 1));
        inks(z, 1, 4, 12, 16);
        DUE.answers(z, "blurred to just 0, to less", 3, () -> z.press(2, 0));
        inks(z, 0, 0, 12, 16);
        CheekClause dry = city(0, lines);
        DUE.answers(dry, "blur 0", 0, () -> dry.press(0, 0));
        inks(dry, 9, 8, 12, 20);
        DUE.about("48: a TURNED one stays so");
        dry.turn(0);
        dry.press(0, 1);
        DUE.is("turned", dry.clause(0, 5), 1);
        DUE.is("no day goes by", dry.size(8), 0);
    }

    private static void pressRefused() {
        DUE.about("48: NONE: 1");
        CheekClause x = city(9, "clause r on p ink 9 must a;clause s on p ink 8 must b");
        DUE.refusesEach(x, "press(c, 0)", 1, Due.not(2), (y, c) -> y.press(c, 0));
        DUE.refusesEach(x, "press(0, m)", 1, Due.not(2), (y, m) -> y.press(0, m));
        inks(x, 0, 8);
        DUE.is("the man", x.clause(0, 3), 0);
        DUE.is("refused ones are no ACTS", x.size(9), 0);
        DUE.refusesWithoutCity("press(c, 0)", -1, (y, c) -> y.press(c, 0));
    }

    // ---- promises 49 and 50

    private static void wash() {
        DUE.about("49: WASH: true");
        CheekClause x = city(9, "clause r on p ink 9 must a;clause s on p ink 1 must b;clause t on q ink 40 must b");
        DUE.answers(x, "wash(2)", 1, () -> Due.of(x.wash(2)));
        inks(x, 0, 1, 0);
        DUE.is("its man stays", x.clause(2, 3), 1);
        DUE.is("an ACT", x.size(9), 1);
        DUE.about("49: false: 5 (it has no INK)");
        DUE.refuses(x, "washed off", 0, 5, () -> Due.of(x.wash(2)));
        DUE.refuses(x, "blurred away", 0, 5, () -> Due.of(x.wash(0)));
        DUE.answers(x, "INK 1", 1, () -> Due.of(x.wash(1)));
        x.undo();
        x.day();
        DUE.refuses(x, "faded", 0, 5, () -> Due.of(x.wash(1)));
        DUE.is("refused ones are no ACTS", x.size(9), 2);
        DUE.about("49: false: 1");
        for (int c : Due.not(3)) {
            DUE.refuses(x, "wash(" + c + ")", 0, 1, () -> Due.of(x.wash(c)));
        }
        DUE.is("refused ones are no ACTS", x.size(9), 2);
        DUE.refusesWithoutCity("wash", 0, (y, c) -> Due.of(y.wash(c)));
    }

    private static void turn() {
        DUE.about("50: TURN: 1 if it is TURNED then, else 0");
        CheekClause x = city(0, "clause r on p ink 1 must a;clause s on p ink 9 must b");
        DUE.answers(x, "turn(1)", 1, () -> x.turn(1));
        DUE.is("the other is not", x.clause(0, 5), 0);
        DUE.answers(x, "turn(0)", 1, () -> x.turn(0));
        DUE.answers(x, "turn(1), back again", 0, () -> x.turn(1));
        DUE.is("the other is still", x.clause(0, 5), 1);
        x.day();
        DUE.answers(x, "one without INK", 0, () -> x.turn(0));
        DUE.is("each is an ACT", x.size(9), 5);
        inks(x, 0, 8);
        DUE.about("50: NONE: 1");
        DUE.refusesEach(x, "turn", 1, Due.not(2), (y, c) -> y.turn(c));
        DUE.is("refused ones are no ACTS", x.size(9), 5);
        DUE.refusesWithoutCity("turn", -1, (y, c) -> y.turn(c));
    }

    // ---- promise 51

    private static void undoEach() {
        String lines = "clause r on p ink 9 must a;clause s on p ink 1 must b;clause t on q ink 7 must b";
        DUE.about("III: UNDO: the latest: DAY");
        CheekClause x = city(2, lines);
        x.day();
        DUE.answers(x, "undo()", 1, () -> Due.of(x.undo()));
        inks(x, 7, 1, 7);
        DUE.is("size(8)", x.size(8), 0);
        DUE.about("III: UNDO: the latest: PRESS");
        x.press(2, 0);
        DUE.answers(x, "undo()", 1, () -> Due.of(x.undo()));
        inks(x, 7, 1, 7);
        DUE.is("its man", x.clause(2, 3), 1);
        DUE.about("III: UNDO: the latest: WASH");
        x.wash(0);
        DUE.answers(x, "undo()", 1, () -> Due.of(x.undo()));
        inks(x, 7, 1, 7);
        DUE.about("III: UNDO: the latest: TURN");
        x.turn(1);
        x.turn(1);
        DUE.answers(x, "undo()", 1, () -> Due.of(x.undo()));
        DUE.is("turned", x.clause(1, 5), 1);
        DUE.answers(x, "undo()", 1, () -> Due.of(x.undo()));
        DUE.is("turned", x.clause(1, 5), 0);
        DUE.about("51: false: 6");
        DUE.refuses(x, "nothing is left", 0, 6, () -> Due.of(x.undo()));
        DUE.refuses(x, "nothing is left still", 0, 6, () -> Due.of(x.undo()));
        CheekClause none = new CheekClause();
        DUE.refuses(none, "no CITY", 0, 6, () -> Due.of(none.undo()));
        DUE.about("51: what is refused, or no ACT, can't be undone");
        x.wash(9);
        x.turn(9);
        x.press(9, 9);
        x.image();
        x.rained(0, 9);
        x.spread();
        DUE.refuses(x, "undo()", 0, 6, () -> Due.of(x.undo()));
    }

    private static void undoSixteen() {
        DUE.about("III: (16 are kept)");
        for (int acts : new int[] {15, 16, 17, 18, 33, 40}) {
            CheekClause x = DUE.told(BARE);
            int kept = Math.min(16, acts);
            for (int i = 0; i < acts; i++) {
                x.day();
                DUE.is("size(9)", x.size(9), Math.min(16, i + 1));
            }
            for (int i = 1; i <= kept; i++) {
                DUE.is("undo() " + i + " of " + acts, x.undo(), true);
                DUE.is("size(8)", x.size(8), acts - i);
                DUE.is("size(9)", x.size(9), kept - i);
            }
            DUE.refuses(x, "one more of " + acts, 0, 6, () -> Due.of(x.undo()));
            DUE.is("size(8)", x.size(8), acts - kept);
        }
        DUE.about("III: undone and done anew, 16 still");
        CheekClause x = DUE.told(BARE);
        for (int i = 0; i < 20; i++) {
            x.day();
        }
        for (int i = 0; i < 5; i++) {
            x.undo();
        }
        for (int i = 0; i < 9; i++) {
            x.day();
        }
        DUE.is("size(8)", x.size(8), 24);
        DUE.is("size(9)", x.size(9), 16);
        for (int i = 0; i < 16; i++) {
            x.undo();
        }
        DUE.is("size(8)", x.size(8), 8);
        DUE.refuses(x, "one more", 0, 6, () -> Due.of(x.undo()));
    }

    // ---- promises 52 and 53

    private static void images() {
        DUE.about("52: An IMAGE: its number. NONE: 1 (no CITY); 3");
        CheekClause none = new CheekClause();
        DUE.refuses(none, "image()", 1, () -> none.image());
        DUE.is("size(10)", none.size(10), 0);
        CheekClause x = city(2, "clause r on p ink 9 must a;clause s on p ink 8 must b;clause t on q ink 7 must b");
        for (int i = 0; i < 3; i++) {
            int number = i;
            DUE.answers(x, "image()", number, () -> x.image());
            DUE.is("size(10)", x.size(10), i + 1);
            x.day();
        }
        DUE.refuses(x, "the fourth", 3, () -> x.image());
        DUE.is("size(10)", x.size(10), 3);
        DUE.is("an IMAGE is no ACT", x.size(9), 3);
        x.undo();
        x.undo();
        DUE.is("undoing takes no IMAGE away", x.size(10), 3);

        DUE.about("53: All is as by an IMAGE (all IMAGES stay): true");
        x.press(0, 1);
        x.turn(2);
        x.wash(1);
        int[][] want = {{7, 8, 7}, {6, 7, 6}, {5, 6, 5}};
        for (int i : new int[] {1, 0, 2, 2, 1}) {
            DUE.answers(x, "back(" + i + ")", 1, () -> Due.of(x.back(i)));
            inks(x, want[i]);
            DUE.is("the man", x.clause(0, 3), 0);
            DUE.is("turned", x.clause(2, 5), 0);
            DUE.is("size(8)", x.size(8), i);
            DUE.is("size(10)", x.size(10), 3);
            DUE.about("III: gone back to one, nothing can be undone");
            DUE.is("size(9)", x.size(9), 0);
            DUE.refuses(x, "undo()", 0, 6, () -> Due.of(x.undo()));
            DUE.about("53: what is done behind it leaves the IMAGE as it was");
            x.press(0, 1);
            x.turn(2);
            x.wash(1);
            x.day();
        }
        DUE.is("done behind it, it can be undone", x.size(9), 4);
        DUE.is("undo()", x.undo(), true);
        DUE.refuses(x, "the fourth still", 3, () -> x.image());
    }

    private static void imagesOfTurnedOnes() {
        DUE.about("53: an IMAGE has the man, what is TURNED and the days, too");
        CheekClause x = city(0, "clause r on p ink 9 must a;clause s on p ink 8 must b");
        x.turn(1);
        x.press(0, 1);
        x.day();
        x.image();
        x.turn(1);
        x.turn(0);
        x.press(0, 0);
        x.day();
        DUE.is("back(0)", x.back(0), true);
        DUE.is("man", x.clause(0, 3), 1);
        DUE.is("turned", x.clause(1, 5), 1);
        DUE.is("not turned", x.clause(0, 5), 0);
        DUE.is("size(8)", x.size(8), 1);
        inks(x, 8, 7);
    }

    private static void backRefused() {
        DUE.about("53: false: 1");
        CheekClause x = city(0, "clause r on p ink 9 must a");
        DUE.refuses(x, "back(0) without an IMAGE", 0, 1, () -> Due.of(x.back(0)));
        x.image();
        x.day();
        x.image();
        x.turn(0);
        for (int i : new int[] {-1, Integer.MIN_VALUE, 2, 3, 4, Integer.MAX_VALUE}) {
            DUE.refuses(x, "back(" + i + ")", 0, 1, () -> Due.of(x.back(i)));
        }
        DUE.is("all is as before", x.clause(0, 5), 1);
        DUE.is("it can be undone still", x.size(9), 2);
        DUE.is("size(8)", x.size(8), 1);
        DUE.refusesWithoutCity("back", 0, (y, i) -> Due.of(y.back(i)));
        DUE.about("53: IMAGES of the city before are gone");
        Due.tell(x, BARE);
        DUE.refuses(x, "back(0)", 0, 1, () -> Due.of(x.back(0)));
        DUE.answers(x, "image()", 0, () -> x.image());
        DUE.refuses(x, "back(1)", 0, 1, () -> Due.of(x.back(1)));
    }

    // ---- promises 54 to 56

    private static int led(CheekClause x, int i) {
        try {
            return x.led(i);
        } catch (NoSuchElementException e) {
            return THROWS;
        }
    }

    private static void ledRow(CheekClause x, int... want) {
        for (int i = 0; i < want.length; i++) {
            DUE.is("led(" + i + ")", led(x, i), want[i]);
        }
        for (int i : Due.not(want.length)) {
            DUE.is("led(" + i + ")", led(x, i), THROWS);
        }
    }

    private static void ledBounds() {
        DUE.about("54: The i-th clause, by numbers, that doesn't BIND. NoSuchElementException if there is none such");
        CheekClause x = city(0, "clause xa on p ink 1 must a;clause xb on q ink 9 must a;clause xc on p ink 9 must a;"
                + "clause xd on p ink 1 must a;clause xe on p ink 9 must a;clause xf on p ink 9 must a;"
                + "clause xg on q ink 9 must a;clause xh on q ink 1 must a");
        ledRow(x);
        x.wash(2);
        ledRow(x, 2);
        x.day();
        ledRow(x, 0, 2, 3, 7);
        x.press(3, 1);
        ledRow(x, 0, 2, 7);
        for (int c : new int[] {6, 5, 4, 3, 1}) {
            x.wash(c);
        }
        ledRow(x, 0, 1, 2, 3, 4, 5, 6, 7);
        ledRow(DUE.told(BARE));
        ledRow(new CheekClause());
        CheekClause blurred = city(9, "clause r on p ink 9 must a;clause s on p ink 9 must a");
        ledRow(blurred, 0);
    }

    private static void size() {
        DUE.about("55: each number of size");
        CheekClause x = DUE.told("city blur 9 slips 100 rain 99;man p;man q;man r;deed a;deed b;deed c;deed d;"
                + "clause xa on p ink 9 must a;clause xb on p ink 9 must a;clause xc on p ink 9 must a;"
                + "clause xd on p ink 9 must a;clause xe on p ink 9 must a;unsure xa;unsure xc;"
                + "did p day 0 kept;did p day 0 kept;did p day 0 kept;did q day 40 breach a");
        x.day();
        x.day();
        x.turn(0);
        x.image();
        x.feed(0, 0, 0, 0, 0);
        x.feed(0, 0, 0, 0, 0);
        int[] want = {9, 100, 99, 3, 4, 5, 2, 4, 2, 3, 1, 40};
        for (int what = 0; what <= 11; what++) {
            DUE.is("size(" + what + ")", x.size(what), want[what]);
        }
        DUE.about("55: NONE for others");
        for (int what : new int[] {-1, Integer.MIN_VALUE, 12, 13, 100, Integer.MAX_VALUE}) {
            DUE.is("size(" + what + ")", x.size(what), -1);
            DUE.is("size(" + what + ") without a city", new CheekClause().size(what), -1);
        }
        DUE.about("55: 0 for what there isn't");
        CheekClause none = new CheekClause();
        none.feed(0, 0, 0, 0, 0);
        for (int what = 0; what <= 10; what++) {
            DUE.is("size(" + what + ")", none.size(what), 0);
        }
        DUE.is("bytes are there without a city, too", none.size(11), 20);
        int[] bare = {0, 0, 0, 1, 1, 0, 0, 0, 0, 0, 0, 0};
        CheekClause y = DUE.told(BARE);
        for (int what = 0; what <= 11; what++) {
            DUE.is("size(" + what + ") of a bare city", y.size(what), bare[what]);
        }
    }

    private static void trouble() {
        DUE.about("IV: 0 it wasn't");
        CheekClause x = city(0, "clause r on p ink 1 must a");
        DUE.is("behind city", x.trouble(), 0);
        DUE.about("IV: 1 there is none such");
        x.clause(1, 0);
        DUE.is("clause(1, 0)", x.trouble(), 1);
        DUE.about("IV: 2 a number");
        x.keeps(0, 4);
        DUE.is("keeps(0, 4)", x.trouble(), 2);
        DUE.about("IV: 3 no room");
        for (int i = 0; i < 4; i++) {
            x.image();
        }
        DUE.is("image()", x.trouble(), 3);
        DUE.about("IV: 4 a FAULT");
        x.city(0);
        DUE.is("city(0)", x.trouble(), 4);
        DUE.about("IV: 5 not so");
        x.day();
        x.wash(0);
        DUE.is("wash(0)", x.trouble(), 5);
        DUE.about("IV: 6 there is none");
        x.undo();
        x.undo();
        DUE.is("undo()", x.trouble(), 6);
        DUE.is("asked again", x.trouble(), 6);
    }

    private static void callsWithoutNumber() {
        DUE.about("IV: of the latest call that may be refused (those of which a number is told here)");
        int[] troubles = {0, 1, 2, 3, 4, 5, 6};
        for (int want : troubles) {
            CheekClause x = city(0, "clause r on p ink 1 must a");
            x.wash(0);
            x.image();
            x.image();
            x.image();
            switch (want) {
                case 0 -> x.ways(0);
                case 1 -> x.ways(9);
                case 2 -> x.rest(10);
                case 3 -> x.image();
                case 4 -> x.city(0);
                case 5 -> x.wash(0);
                default -> {
                    x.undo();
                    x.undo();
                }
            }
            x.fault();
            DUE.is("behind fault", x.trouble(), want);
            x.where();
            DUE.is("behind where", x.trouble(), want);
            x.size(3);
            DUE.is("behind size", x.trouble(), want);
            x.size(12);
            DUE.is("behind size that there isn't", x.trouble(), want);
            led(x, 0);
            DUE.is("behind led", x.trouble(), want);
            led(x, 9);
            DUE.is("behind led that throws", x.trouble(), want);
            for (int i = 0; i < 46; i++) {
                x.feed(0, 0, 0, 0, 0);
            }
            DUE.is("behind feed, that had no room at last", x.trouble(), want);
        }
    }

    private static void fiveHundredAndTwelve() {
        DUE.about("An object is used for at most 512 calls");
        CheekClause x = new CheekClause();
        Due.feed(x, BARE);
        x.city(BARE.length());
        int calls = 3;
        while (calls < 512) {
            int way = calls % 4;
            DUE.is("call " + calls, way == 0 ? x.day() : way == 1 ? x.ways(0) : way == 2 ? Due.of(x.undo()) : x.stuck(),
                    way == 0 ? 0 : way == 1 ? 2 : way == 2 ? 1 : 0);
            calls++;
        }
        DUE.is("the last call was the 512th", calls, 512);
    }

    public static void main(String[] args) {
        day();
        daysWithinTheCalls();
        press();
        pressRefused();
        wash();
        turn();
        undoEach();
        undoSixteen();
        images();
        imagesOfTurnedOnes();
        backRefused();
        ledBounds();
        size();
        trouble();
        callsWithoutNumber();
        fiveHundredAndTwelve();
        DUE.end("ActEdgesTest");
    }
}
