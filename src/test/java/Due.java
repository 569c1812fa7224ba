import java.nio.charset.StandardCharsets;
import java.util.function.LongSupplier;

/** Counts the answers that are not as due, and puts texts on THE TAPE. */
final class Due {
    private static final String BARE = "city blur 0 slips 0 rain 0;man p;deed a";

    private int wrong;
    private int right;
    private String about = "";

    void about(String what) {
        about = what;
    }

    void is(String call, long got, long want) {
        if (got == want) {
            right++;
        } else {
            wrong++;
            System.out.println(about + ": " + call + " answered " + got + ", due is " + want);
        }
    }

    void is(String call, boolean got, boolean want) {
        is(call, got ? 1 : 0, want ? 1 : 0);
    }

    /** A refused call: its answer, and the number that trouble() tells behind it. */
    void no(CheekClause x, String call, long got, long want, int trouble) {
        is(call, got, want);
        is(call + ", trouble()", x.trouble(), trouble);
    }

    void no(CheekClause x, String call, boolean got, int trouble) {
        no(x, call, got ? 1 : 0, 0, trouble);
    }

    void no(CheekClause x, String call, long got, int trouble) {
        no(x, call, got, CheekClause.NONE, trouble);
    }

    // ---- calls that must put trouble() right themselves, whatever it was ahead of them

    static long of(boolean answer) {
        return answer ? 1 : 0;
    }

    /** Makes trouble() some other number than the one that is due next, changing nothing else. */
    private static void unsettle(CheekClause x, int trouble) {
        if (trouble != 1) {
            x.back(-1);
        } else if (x.size(3) == 0) {
            x.undo();
        } else {
            x.shaves(-1, true, true, true);
        }
    }

    void refuses(CheekClause x, String call, long want, int trouble, LongSupplier made) {
        unsettle(x, trouble);
        no(x, call, made.getAsLong(), want, trouble);
    }

    void refuses(CheekClause x, String call, int trouble, LongSupplier made) {
        refuses(x, call, CheekClause.NONE, trouble, made);
    }

    void answers(CheekClause x, String call, long want, LongSupplier made) {
        unsettle(x, 0);
        no(x, call, made.getAsLong(), want, 0);
    }

    /** A call with one number, refused for each of these. */
    void refusesEach(CheekClause x, String call, int trouble, int[] numbers, CallOfOne made) {
        for (int number : numbers) {
            refuses(x, call + " of " + number, trouble, () -> made.on(x, number));
        }
    }

    void refusesWithoutCity(String call, long want, CallOfOne made) {
        CheekClause none = new CheekClause();
        for (int number : new int[] {0, -1, Integer.MAX_VALUE}) {
            refuses(none, call + " of " + number + " without a city", want, 1, () -> made.on(none, number));
        }
    }

    interface CallOfOne {
        long on(CheekClause x, int number);
    }

    /** Numbers that are no i for any i of 0 .. count - 1. */
    static int[] not(int count) {
        return new int[] {-1, -2, Integer.MIN_VALUE, count, count + 1, 32, 63 + count, 64 + count, 256, Integer.MAX_VALUE};
    }

    // ---- texts

    static String city(int blur, int slips, int rain, String... lines) {
        return "city blur " + blur + " slips " + slips + " rain " + rain + ";" + String.join(";", lines);
    }

    static void feed(CheekClause x, String text) {
        byte[] bytes = text.getBytes(StandardCharsets.ISO_8859_1);
        for (int i = 0; i < bytes.length; i += 20) {
            int[] v = new int[5];
            for (int j = 0; j < 20; j++) {
                v[j / 4] = v[j / 4] << 8 | (i + j < bytes.length ? bytes[i + j] & 255 : ' ');
            }
            x.feed(v[0], v[1], v[2], v[3], v[4]);
        }
    }

    static int tell(CheekClause x, String text) {
        feed(x, text);
        return x.city(text.length());
    }

    CheekClause told(String text) {
        CheekClause x = new CheekClause();
        int men = tell(x, text);
        if (men < 1) {
            is("city of " + text + ", fault " + x.fault() + " at " + x.where(), men, 1);
        }
        return x;
    }

    /** A text with a FAULT: told to an object that has a CITY already, which must stay. */
    void fault(String text, int number, int place) {
        CheekClause x = told(BARE);
        no(x, "city of " + text, tell(x, text), 4);
        is("fault() of " + text, x.fault(), number);
        is("where() of " + text, x.where(), place);
        is("the city stays, men", x.size(3), 1);
        is("the city stays, deeds", x.size(4), 1);
    }

    void faultAt(String before, String there, int number) {
        fault(before + there, number, before.length());
    }

    void fine(String text, int men) {
        CheekClause x = new CheekClause();
        is("city of " + text, tell(x, text), men);
        is("fault() of " + text, x.fault(), 0);
        is("where() of " + text, x.where(), -1);
    }

    void end(String test) {
        System.out.println(test + ": " + right + " answers as due, " + wrong + " not");
        if (wrong != 0 || right == 0) {
            System.exit(1);
        }
    }
}
