import java.nio.charset.StandardCharsets;

/** Counts the answers that are not as due, and puts texts on THE TAPE. */
final class Due {
    private int wrong;
    private int right;
    private String about = "";

    void about(String what) {
        about = what;
    }

    void is(String call, long got, long want) {
        if (got == want) {
            right++;
        } else {
            wrong++;
            System.out.println(about + ": " + call + " answered " + got + ", due is " + want);
        }
    }

    void is(String call, boolean got, boolean want) {
        is(call, got ? 1 : 0, want ? 1 : 0);
    }

    /** A refused call: its answer, and the number that trouble() tells behind it. */
    void no(CheekClause x, String call, long got, long want, int trouble) {
        is(call, got, want);
        is(call + ", trouble()", x.trouble(), trouble);
    }

    void no(CheekClause x, String call, boolean got, int trouble) {
        no(x, call, got ? 1 : 0, 0, trouble);
    }

    void no(CheekClause x, String call, long got, int trouble) {
        no(x, call, got, CheekClause.NONE, trouble);
    }

    static void feed(CheekClause x, String text) {
        byte[] bytes = text.getBytes(StandardCharsets.ISO_8859_1);
        for (int i = 0; i < bytes.length; i += 20) {
            int[] v = new int[5];
            for (int j = 0; j < 20; j++) {
                v[j / 4] = v[j / 4] << 8 | (i + j < bytes.length ? bytes[i + j] & 255 : ' ');
            }
            x.feed(v[0], v[1], v[2], v[3], v[4]);
        }
    }

    static int tell(CheekClause x, String text) {
        feed(x, text);
        return x.city(text.length());
    }

    CheekClause told(String text) {
        CheekClause x = new CheekClause();
        int men = tell(x, text);
        if (men < 1) {
            is("city of " + text + ", fault " + x.fault() + " at " + x.where(), men, 1);
        }
        return x;
    }

    void end(String test) {
        System.out.println(test + ": " + right + " answers as due, " + wrong + " not");
        if (wrong != 0 || right == 0) {
            System.exit(1);
        }
    }
}
