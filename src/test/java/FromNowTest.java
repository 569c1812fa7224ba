import java.util.LinkedHashMap;
import java.util.Map;

/**
 * Term III begins "From NOW": whatever was done, each call that tells of NOW answers as of a city told anew as it is NOW;
 * and FITS, "as told at first .. nothing else done", answer as of the city as told at first.
 */
public final class FromNowTest {
    private static final String[] FORMS = {"must", "mustnt", "if", "unless", "notboth", "either"};
    /** The forms that TURNED ones are; either has none. */
    private static final int[] TURNED = {1, 0, 2, 4, 3, -1};
    private static final int MEN = 2;
    private static final int DEEDS = 3;
    private static final int STEPS = 12;
    private static final int SCRIPTS = 120;

    private static final Due DUE = new Due();

    private long seed = 5;

    private FromNowTest() {
    }

    private int draw(int below) {
        seed = seed * 6364136223846793005L + 1442695040888963407L;
        return (int) ((seed >>> 33) % below);
    }

    // ---- texts

    private static String clauseLine(int c, int man, int ink, int form, int first, int second) {
        return ";clause c" + (char) ('a' + c) + " on m" + (char) ('a' + man) + " ink " + ink + " " + FORMS[form]
                + " " + (char) ('a' + first) + (second < 0 ? "" : " " + (char) ('a' + second));
    }

    private static String headLine(int blur, int slips, int rain) {
        return Due.city(blur, slips, rain, "man ma;man mb;deed a;deed b;deed c");
    }

    private String drawnText() {
        int count = 1 + draw(6);
        StringBuilder text = new StringBuilder(headLine(draw(4), draw(2) * 25, draw(5) * 25));
        for (int c = 0; c < count; c++) {
            int form = draw(FORMS.length);
            int first = draw(DEEDS);
            int second = form < 2 ? -1 : (first + 1 + draw(2)) % DEEDS;
            text.append(clauseLine(c, draw(MEN), 1 + draw(8), form, first, second));
        }
        for (int c = 0; c < count && c < 3; c++) {
            text.append(";unsure c").append((char) ('a' + c));
        }
        for (int i = draw(3); i > 0; i--) {
            text.append(";did m").append((char) ('a' + draw(MEN))).append(" day ").append(draw(6))
                    .append(draw(2) == 0 ? " kept " : " breach ").append((char) ('a' + draw(DEEDS)));
        }
        return text.toString();
    }

    /** A city without blur that is told as x is NOW; what can't be told so is done behind it. */
    private static CheekClause toldAnew(CheekClause x) {
        StringBuilder text = new StringBuilder(headLine(0, 0, x.size(2)));
        for (int c = 0; c < x.size(5); c++) {
            int form = x.clause(c, 0);
            boolean other = x.clause(c, 5) == 1 && TURNED[form] >= 0;
            boolean swaps = other && form == 2;
            text.append(clauseLine(c, x.clause(c, 3), Math.max(1, x.clause(c, 4)), other ? TURNED[form] : form,
                    x.clause(c, swaps ? 2 : 1), x.clause(c, swaps ? 1 : 2)));
        }
        CheekClause anew = DUE.told(text.toString());
        for (int c = 0; c < x.size(5); c++) {
            if (x.clause(c, 4) == 0) {
                anew.wash(c);
            }
            if (x.clause(c, 5) == 1 && TURNED[x.clause(c, 0)] < 0) {
                anew.turn(c);
            }
        }
        return anew;
    }

    // ---- what is asked

    private static Map<String, Long> ofMen(CheekClause x) {
        Map<String, Long> told = new LinkedHashMap<>();
        for (int m = 0; m < MEN; m++) {
            for (int what = 0; what < 3; what++) {
                told.put("man " + m + " " + what, (long) x.man(m, what));
            }
            for (int i = 0; i <= 8; i++) {
                told.put("wayAt " + m + " " + i, (long) x.wayAt(m, i));
            }
            told.put("ways " + m, (long) x.ways(m));
            told.put("can " + m, (long) x.can(m));
            told.put("must " + m, (long) x.must(m));
            told.put("idlest " + m, (long) x.idlest(m));
            told.put("bar " + m, (long) x.bar(m));
            told.put("free " + m, (long) x.free(m));
            told.put("cheap " + m, (long) x.cheap(m));
            told.put("price " + m, (long) x.price(m));
            told.put("idle " + m, (long) x.idle(m));
            told.put("heaviest " + m, (long) x.heaviest(m));
            told.put("feared " + m, (long) x.feared(m));
            told.put("freeIn " + m, (long) x.freeIn(m));
            told.put("clearIn " + m, (long) x.clearIn(m));
            told.put("freeOdds " + m, x.freeOdds(m, false));
            told.put("freeOdds by " + m, x.freeOdds(m, true));
            told.put("mean " + m, x.mean(m, false));
            told.put("mean by " + m, x.mean(m, true));
            for (int n = 0; n < 9; n++) {
                told.put("waysIn " + m + " " + n, (long) x.waysIn(m, n));
                told.put("freeBy " + m + " " + n, (long) x.freeBy(m, 7919 * n, n));
            }
            for (int set = 0; set < 1 << DEEDS; set++) {
                told.put("may " + m + " " + set, (long) x.may(m, set));
                told.put("mayIn " + m + " " + set, (long) x.mayIn(m, set));
                told.put("mayOdds " + m + " " + set, x.mayOdds(m, set, false));
                told.put("mayOdds by " + m + " " + set, x.mayOdds(m, set, true));
            }
        }
        return told;
    }

    private static Map<String, Long> ofClauses(CheekClause x) {
        Map<String, Long> told = new LinkedHashMap<>();
        told.put("stuck", (long) x.stuck());
        told.put("mostBound", (long) x.mostBound());
        told.put("spread", (long) x.spread());
        told.put("together", (long) x.together());
        int without = x.size(5) - Integer.bitCount(x.man(0, 1) | x.man(1, 1));
        for (int i = 0; i < without; i++) {
            told.put("led " + i, (long) x.led(i));
        }
        for (int n = 0; n < 9; n++) {
            told.put("rained " + n, (long) x.rained(6007 * n, n));
        }
        for (int c = 0; c < x.size(5); c++) {
            told.put("spreadAt " + c, (long) x.spreadAt(c));
            for (int n = 0; n < 9; n++) {
                told.put("ink " + c + " " + n, (long) x.ink(c, n));
            }
            for (int set = 0; set < 1 << DEEDS; set++) {
                told.put("keeps " + c + " " + set, (long) x.keeps(c, set));
            }
        }
        return told;
    }

    private static Map<String, Long> ofFits(CheekClause x) {
        Map<String, Long> told = new LinkedHashMap<>();
        told.put("fits", (long) x.fits());
        told.put("likeliest", (long) x.likeliest());
        told.put("ask", (long) x.ask());
        told.put("askLeaves", (long) x.askLeaves());
        told.put("judge", (long) x.judge());
        for (int i = 0; i < 8; i++) {
            told.put("fitAt " + i, (long) x.fitAt(i));
        }
        for (int k = 0; k < 3; k++) {
            told.put("odds " + k, x.odds(k, false));
            told.put("odds by " + k, x.odds(k, true));
        }
        return told;
    }

    // ---- what is done

    private static void does(CheekClause x, int[] act) {
        switch (act[0]) {
            case 0: x.day(); break;
            case 1: case 2: x.press(act[1], act[2]); break;
            case 3: x.wash(act[1]); break;
            case 4: case 5: x.turn(act[1]); break;
            case 6: x.undo(); break;
            case 7: x.image(); break;
            default: x.back(act[2]);
        }
    }

    /** An object of its own for each state and each kind of question, so that none is called 512 times. */
    private static CheekClause behind(String text, int[][] acts, int steps) {
        CheekClause x = DUE.told(text);
        for (int i = 0; i < steps; i++) {
            does(x, acts[i]);
        }
        return x;
    }

    private static void alike(String about, Map<String, Long> got, Map<String, Long> want) {
        DUE.about(about);
        DUE.is("how many answers", got.size(), want.size());
        for (Map.Entry<String, Long> one : want.entrySet()) {
            DUE.is(one.getKey(), got.getOrDefault(one.getKey(), Long.MIN_VALUE), one.getValue());
        }
    }

    private void script() {
        String text = drawnText();
        int count = DUE.told(text).size(5);
        int[][] acts = new int[STEPS][];
        for (int i = 0; i < STEPS; i++) {
            acts[i] = new int[] {draw(9), draw(count), draw(MEN)};
        }
        Map<String, Long> fitsAtFirst = ofFits(DUE.told(text));
        for (int steps = 0; steps <= STEPS; steps++) {
            CheekClause anew = toldAnew(behind(text, acts, steps));
            String about = text + " behind " + java.util.Arrays.deepToString(java.util.Arrays.copyOf(acts, steps));
            alike(about, ofMen(behind(text, acts, steps)), ofMen(anew));
            alike(about, ofClauses(behind(text, acts, steps)), ofClauses(toldAnew(behind(text, acts, steps))));
            alike(about, ofFits(behind(text, acts, steps)), fitsAtFirst);
        }
    }

    public static void main(String[] args) {
        FromNowTest test = new FromNowTest();
        for (int i = 0; i < SCRIPTS; i++) {
            test.script();
        }
        DUE.end("FromNowTest");
    }
}
