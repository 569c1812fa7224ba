import java.util.NoSuchElementException;

/**
 * Runs of calls on cities made up by a fixed row of draws: the class and the Model must answer alike,
 * and be in like trouble behind each call. Texts that are spoilt on purpose try the FAULTS.
 */
public final class ModelTest {
    private static final String[] FORMS = {"must", "mustnt", "if", "unless", "notboth", "either"};
    private static final int[] ODD = {-1, -2, Integer.MIN_VALUE, Integer.MAX_VALUE, 64, 100, 31, 32, 33};
    private static final int CALLS = 54;

    private long seed;
    private CheekClause x;
    private Model y;
    private int wrong;
    private long compared;
    private String told = "";
    private final StringBuilder log = new StringBuilder();

    private ModelTest(long start) {
        seed = start;
    }

    private int draw(int below) {
        seed = seed * 6364136223846793005L + 1442695040888963407L;
        return (int) ((seed >>> 33) % below);
    }

    private int number(int below) {
        return draw(25) == 0 ? ODD[draw(ODD.length)] : draw(25) == 0 ? below : draw(Math.max(1, below));
    }

    // ---- texts

    private static String name(int sort, int i) {
        return "mdc".charAt(sort) + "" + (char) ('a' + i);
    }

    private String deedsOf(int deeds) {
        StringBuilder s = new StringBuilder();
        for (int d = 0; d < deeds; d++) {
            if (draw(2) == 0) {
                s.append(s.length() == 0 ? " " : ",").append(name(1, d));
            }
        }
        return s.toString();
    }

    private String clauseLine(int i, int men, int deeds, boolean isTight) {
        int[] tightForms = {0, 1, 5};
        int form = deeds < 2 ? draw(2) : isTight ? tightForms[draw(3)] : draw(6);
        int a = draw(deeds);
        int b = (a + 1 + draw(Math.max(1, deeds - 1))) % deeds;
        int ink = draw(3) == 0 ? 1 + draw(40) : 1 + draw(9);
        return ";clause " + name(2, i) + " on " + name(0, draw(men)) + " ink " + ink + " " + FORMS[form] + " "
                + name(1, a) + (form < 2 ? "" : " " + name(1, b));
    }

    /** A tight city has few deeds and many clauses that bar one another. */
    private String text() {
        boolean isTight = draw(3) == 0;
        int men = 1 + draw(4);
        int deeds = isTight ? 2 + draw(2) : 1 + draw(6);
        int clauses = isTight || draw(4) == 0 ? 8 : draw(9);
        int[] percents = {0, 100, 50, 20, 5, 33};
        StringBuilder s = new StringBuilder("city blur " + (isTight ? 0 : draw(2) == 0 ? draw(10) : draw(3))
                + " slips " + percents[draw(6)] + " rain " + percents[draw(6)]);
        for (int m = 0; m < men; m++) {
            s.append(";man ").append(name(0, m));
        }
        for (int d = 0; d < deeds; d++) {
            s.append(";deed ").append(name(1, d));
        }
        int used = draw(2) == 0 ? 1 : men;
        for (int c = 0; c < clauses; c++) {
            s.append(clauseLine(c, used, deeds, isTight));
        }
        int unsure = Math.min(clauses, draw(6));
        int from = clauses == 0 ? 0 : draw(clauses);
        for (int k = 0; k < unsure; k++) {
            s.append(";unsure ").append(name(2, (from + k * (clauses % 3 == 0 ? 1 : 3)) % clauses));
        }
        int dids = draw(3) == 0 ? draw(7) : draw(3);
        for (int i = 0; i < dids; i++) {
            s.append(";did ").append(name(0, draw(used))).append(" day ").append(draw(6))
                    .append(draw(2) == 0 ? " kept" : " breach").append(deedsOf(deeds));
        }
        return s.toString();
    }

    private String spoilt(String s) {
        return draw(3) == 0 ? withLineMoved(s) : draw(2) == 0 ? withOtherToken(s) : withPartSpoilt(s);
    }

    private String withLineMoved(String s) {
        java.util.List<String> lines = new java.util.ArrayList<>(java.util.List.of(s.split(";")));
        String line = lines.get(draw(lines.size()));
        if (draw(2) == 0) {
            lines.remove(line);
        }
        lines.add(draw(lines.size() + 1), line);
        return String.join(draw(5) == 0 ? " ; " : ";", lines);
    }

    private String withOtherToken(String s) {
        String[] wholes = {"0", "9", "10", "40", "41", "100", "101", "999", "007"};
        String[] parts = s.split("(?<=[ ;,])|(?=[ ;,])");
        for (int tries = 0; tries < 20; tries++) {
            int i = draw(parts.length);
            if (parts[i].matches("[0-9]+")) {
                parts[i] = wholes[draw(wholes.length)];
                break;
            }
            if (parts[i].matches("[mdc][a-h]")) {
                parts[i] = name(draw(4) == 0 ? draw(3) : "mdc".indexOf(parts[i].charAt(0)), draw(8));
                break;
            }
        }
        return String.join("", parts);
    }

    private String withPartSpoilt(String s) {
        String[] tokens = {"city", "man", "deed", "clause", "unsure", "did", "ma", "da", "ca", "zz", "0", "41", "101",
            ";", ",", "must", "if", "kept", "day", "on", "ink", "abcdefgh", "abcdefghi", "1234", "#", "  ", "A"};
        String[] parts = s.split("(?<=[ ;,])|(?=[ ;,])");
        int times = 1 + draw(2);
        for (int t = 0; t < times; t++) {
            int i = draw(parts.length);
            switch (draw(5)) {
                case 0 -> parts[i] = "";
                case 1 -> parts[i] = tokens[draw(tokens.length)];
                case 2 -> parts[i] = parts[i] + " " + parts[draw(parts.length)];
                case 3 -> parts[i] = parts[draw(parts.length)];
                default -> {
                    for (int j = i; j < parts.length; j++) {
                        parts[j] = j == i && draw(2) == 0 ? parts[j] : "";
                    }
                }
            }
        }
        return String.join("", parts);
    }

    private String moreLines(String s) {
        StringBuilder b = new StringBuilder(s);
        int sort = draw(4);
        for (int i = 0; i < 7; i++) {
            b.append(sort == 0 ? ";man x" + (char) ('a' + i) : sort == 1 ? ";deed x" + (char) ('a' + i)
                    : sort == 2 ? ";did ma day 1 kept" : ";clause x" + (char) ('a' + i) + " on ma ink 9 must da");
        }
        return b.toString();
    }

    private void tell(String s) {
        told = s;
        byte[] bytes = s.getBytes(java.nio.charset.StandardCharsets.ISO_8859_1);
        int n = Math.min(bytes.length, 900);
        for (int i = 0; i < n; i += 20) {
            int[] v = new int[5];
            for (int j = 0; j < 20; j++) {
                v[j / 4] = v[j / 4] << 8 | (i + j < bytes.length ? bytes[i + j] & 255 : 32);
            }
            same("feed", x.feed(v[0], v[1], v[2], v[3], v[4]), y.feed(v[0], v[1], v[2], v[3], v[4]));
        }
        int length = draw(30) == 0 ? number(901) : n;
        same("city(" + length + ")", x.city(length), y.city(length));
        if (draw(30) == 0) {
            same("feed", x.feed(draw(99), -1, 3, 4, 5), y.feed(0, 0, 0, 0, 0));
            same("city", x.city(-1), y.city(-1));
            same("city", x.city(0), y.city(0));
        }
    }

    // ---- calls

    private void same(String call, long got, long want) {
        log.append(call).append(" -> ").append(got).append('\n');
        boolean alike = got == want && x.trouble() == y.trouble && x.fault() == y.fault && x.where() == y.where();
        compared++;
        if (!alike) {
            wrong++;
            if (wrong < 10) {
                System.out.println("text: " + told);
                System.out.println(log.length() > 3000 ? log.substring(log.length() - 3000) : log);
                System.out.println(call + " answered " + got + ", due is " + want + "; trouble " + x.trouble() + "/"
                        + y.trouble + ", fault " + x.fault() + "/" + y.fault + ", where " + x.where() + "/" + y.where());
            }
        }
    }

    private static long of(boolean b) {
        return b ? 1 : 0;
    }

    private static long led(CheekClause x, int i) {
        try {
            return x.led(i);
        } catch (NoSuchElementException e) {
            return -77;
        }
    }

    private static long led(Model y, int i) {
        try {
            return y.led(i);
        } catch (NoSuchElementException e) {
            return -77;
        }
    }

    private void call(int which) {
        int m = number(y.text == null ? 1 : y.text.men);
        int c = number(y.text == null ? 1 : y.text.clauses.size());
        int s = number(y.text == null ? 1 : 1 << y.text.deeds);
        int k = number(y.text == null ? 1 : y.text.unsure.size());
        int n = number(draw(2) == 0 ? 10 : 61);
        int z = draw(20) == 0 ? 65530 + draw(10) : draw(65537);
        boolean b = draw(2) == 0;
        boolean d = draw(2) == 0;
        boolean e = draw(2) == 0;
        switch (which) {
            case 0 -> { int w = number(8); same("clause " + c + " " + w, x.clause(c, w), y.clause(c, w)); }
            case 1 -> { int w = number(4); same("man " + m + " " + w, x.man(m, w), y.man(m, w)); }
            case 2 -> same("keeps " + c + " " + s, x.keeps(c, s), y.keeps(c, s));
            case 3 -> same("may " + m + " " + s, x.may(m, s), y.may(m, s));
            case 4 -> same("ways " + m, x.ways(m), y.ways(m));
            case 5 -> { int w = number(20); same("wayAt " + m + " " + w, x.wayAt(m, w), y.wayAt(m, w)); }
            case 6 -> same("can " + m, x.can(m), y.can(m));
            case 7 -> same("must " + m, x.must(m), y.must(m));
            case 8 -> same("idlest " + m, x.idlest(m), y.idlest(m));
            case 9 -> same("stuck", x.stuck(), y.stuck());
            case 10 -> same("mostBound", x.mostBound(), y.mostBound());
            case 11 -> same("bar " + m, x.bar(m), y.bar(m));
            case 12 -> same("free " + m, x.free(m), y.free(m));
            case 13 -> same("cheap " + m, x.cheap(m), y.cheap(m));
            case 14 -> same("price " + m, x.price(m), y.price(m));
            case 15 -> same("idle " + m, x.idle(m), y.idle(m));
            case 16 -> same("heaviest " + m, x.heaviest(m), y.heaviest(m));
            case 17 -> same("feared " + m, x.feared(m), y.feared(m));
            case 18 -> same("spread", x.spread(), y.spread());
            case 19 -> same("spreadAt " + c, x.spreadAt(c), y.spreadAt(c));
            case 20 -> same("together", x.together(), y.together());
            case 21 -> same("ink " + c + " " + n, x.ink(c, n), y.ink(c, n));
            case 22 -> same("waysIn " + m + " " + n, x.waysIn(m, n), y.waysIn(m, n));
            case 23 -> same("freeIn " + m, x.freeIn(m), y.freeIn(m));
            case 24 -> same("clearIn " + m, x.clearIn(m), y.clearIn(m));
            case 25 -> same("mayIn " + m + " " + s, x.mayIn(m, s), y.mayIn(m, s));
            case 26 -> same("fits", x.fits(), y.fits());
            case 27 -> { int w = number(12); same("fitAt " + w, x.fitAt(w), y.fitAt(w)); }
            case 28 -> same("odds " + k + b, x.odds(k, b), y.odds(k, b));
            case 29 -> same("likeliest", x.likeliest(), y.likeliest());
            case 30 -> same("ask", x.ask(), y.ask());
            case 31 -> same("askLeaves", x.askLeaves(), y.askLeaves());
            case 32 -> same("judge", x.judge(), y.judge());
            case 33 -> { int w = number(10); same("shaves " + w + b + d + e, x.shaves(w, b, d, e), y.shaves(w, b, d, e)); }
            case 34 -> { int w = number(10); same("rests " + w, x.rests(w), y.rests(w)); }
            case 35 -> { int w = number(10); same("rest " + w, x.rest(w), y.rest(w)); }
            case 36 -> same("mayOdds " + m + " " + s + b, x.mayOdds(m, s, b), y.mayOdds(m, s, b));
            case 37 -> same("freeOdds " + m + b, x.freeOdds(m, b), y.freeOdds(m, b));
            case 38 -> same("mean " + m + b, x.mean(m, b), y.mean(m, b));
            case 39, 40 -> same("rained " + z + " " + n, x.rained(z, n), y.rained(z, n));
            case 41 -> same("freeBy " + m + " " + z + " " + n, x.freeBy(m, z, n), y.freeBy(m, z, n));
            case 42 -> same("day", x.day(), y.day());
            case 43, 44 -> same("press " + c + " " + m, x.press(c, m), y.press(c, m));
            case 45 -> same("wash " + c, of(x.wash(c)), of(y.wash(c)));
            case 46, 47 -> same("turn " + c, x.turn(c), y.turn(c));
            case 48 -> same("undo", of(x.undo()), of(y.undo()));
            case 49 -> same("image", x.image(), y.image());
            case 50 -> { int w = number(4); same("back " + w, of(x.back(w)), of(y.back(w))); }
            case 51 -> { int w = number(5); same("led " + w, led(x, w), led(y, w)); }
            default -> { int w = number(12); same("size " + w, x.size(w), y.size(w)); }
        }
    }

    private void run(int round) {
        x = new CheekClause();
        y = new Model();
        log.setLength(0);
        int calls = 0;
        while (calls < 12 && draw(6) == 0) {
            call(draw(CALLS));
            calls++;
        }
        if (round % 3 == 0) {
            for (int i = 0; i < 6; i++) {
                String s = draw(4) == 0 ? moreLines(text()) : text();
                tell(draw(9) == 0 ? s : spoilt(s));
            }
        }
        tell(text());
        for (int i = 0; i < 150; i++) {
            call(draw(CALLS));
        }
        for (int i = 0; round % 5 == 0 && i < 20; i++) {
            call(42 + draw(6));
        }
        for (int i = 0; round % 5 == 0 && i < 18; i++) {
            call(48);
            call(0);
        }
    }

    public static void main(String[] args) {
        int rounds = args.length > 0 ? Integer.parseInt(args[0]) : 600;
        ModelTest test = new ModelTest(args.length > 1 ? Long.parseLong(args[1]) : 20261118L);
        for (int i = 0; i < rounds; i++) {
            test.run(i);
        }
        System.out.println("ModelTest: " + test.compared + " answers compared, " + test.wrong + " not alike");
        if (test.wrong != 0) {
            System.exit(1);
        }
    }
}
