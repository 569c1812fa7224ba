import java.util.ArrayList;
import java.util.Arrays;
import java.util.HashMap;
import java.util.HashSet;
import java.util.List;
import java.util.Map;
import java.util.NoSuchElementException;
import java.util.Set;
import java.math.BigInteger;

/**
 * The document once more, written another way (lists of lines, deeds one by one, big numbers), so that
 * ModelTest can hold the class against it. It is slow and makes objects freely.
 */
final class Model {
    static final List<String> KEYWORDS = List.of("city", "man", "deed", "clause", "unsure", "did");
    static final List<String> FORMS = List.of("must", "mustnt", "if", "unless", "notboth", "either");

    static final class Clause {
        int form, first, second, man, ink;
    }

    static final class Did {
        int man, day;
        boolean kept;
        Set<Integer> deeds = new HashSet<>();
    }

    static final class Text {
        int blur, slips, rain, men, deeds;
        List<Clause> clauses = new ArrayList<>();
        List<Integer> unsure = new ArrayList<>();
        List<Did> dids = new ArrayList<>();
    }

    static final class State {
        int[] ink, man;
        boolean[] turned;
        int days;

        State copy() {
            State s = new State();
            s.ink = ink.clone();
            s.man = man.clone();
            s.turned = turned.clone();
            s.days = days;
            return s;
        }
    }

    final StringBuilder tape = new StringBuilder();
    Text text;
    State start, now;
    final List<State> undo = new ArrayList<>();
    final List<State> images = new ArrayList<>();
    int trouble, fault, place = -1;

    // ---- the text: all faults are gathered, then the first one is chosen

    static final class Token {
        String word;
        int place;
        boolean isToken = true;

        boolean isWord() {
            return isToken && !word.isEmpty() && Character.isLowerCase(word.charAt(0));
        }

        boolean isWhole() {
            return isToken && !word.isEmpty() && Character.isDigit(word.charAt(0));
        }

        boolean isName() {
            return isWord() && !KEYWORDS.contains(word);
        }
    }

    static final class FormFault extends RuntimeException {
        private static final long serialVersionUID = 1;
    }

    static final class Parser {
        final List<Token> tokens = new ArrayList<>();
        final List<int[]> faults = new ArrayList<>();
        final Map<String, Integer> sorts = new HashMap<>();
        final Map<String, Integer> numbers = new HashMap<>();
        final int[] lines = new int[6];
        final Text text = new Text();
        int at;

        Parser(String s) {
            int i = 0;
            while (i < s.length()) {
                char ch = s.charAt(i);
                if (ch == ' ') {
                    i++;
                    continue;
                }
                int j = i + 1;
                boolean letter = ch >= 'a' && ch <= 'z';
                boolean digit = ch >= '0' && ch <= '9';
                while (j < s.length() && (letter && s.charAt(j) >= 'a' && s.charAt(j) <= 'z'
                        || digit && s.charAt(j) >= '0' && s.charAt(j) <= '9')) {
                    j++;
                }
                Token t = new Token();
                t.word = s.substring(i, j);
                t.place = i;
                t.isToken = letter ? j - i <= 8 : digit ? j - i <= 3 : ch == ';' || ch == ',';
                tokens.add(t);
                i = j;
            }
            Token end = new Token();
            end.word = "";
            end.place = s.length();
            tokens.add(end);
        }

        Token here() {
            return tokens.get(at);
        }

        void fault(int number, Token t) {
            faults.add(new int[] {t.place, number});
        }

        Token need(boolean right) {
            if (!right || !here().isToken) {
                fault(1, here());
                throw new FormFault();
            }
            return tokens.get(at++);
        }

        void word(String w) {
            need(here().word.equals(w));
        }

        int whole(int lo, int hi) {
            Token t = need(here().isWhole());
            int v = Integer.parseInt(t.word);
            if (v < lo || v > hi) {
                fault(4, t);
            }
            return v;
        }

        void tell(int sort, int number) {
            Token t = need(here().isName());
            if (sorts.containsKey(t.word)) {
                fault(3, t);
            }
            sorts.put(t.word, sort);
            numbers.put(t.word, number);
        }

        int use(int sort, Set<Integer> gone) {
            Token t = need(here().isName());
            if (!sorts.containsKey(t.word) || sorts.get(t.word) != sort) {
                fault(2, t);
                return -5;
            }
            int n = numbers.get(t.word);
            if (gone.contains(n)) {
                fault(3, t);
            }
            return n;
        }

        void line() {
            Token first = need(here().isWord() && KEYWORDS.contains(here().word));
            int sort = KEYWORDS.indexOf(first.word);
            int[] room = {1, 4, 6, 8, 5, 6};
            if (lines[sort] >= room[sort]) {
                fault(sort == 0 ? 3 : 5, first);
            }
            if (sort != 0 && lines[0] == 0) {
                fault(6, first);
            }
            lines[sort]++;
            switch (sort) {
                case 0 -> {
                    word("blur");
                    text.blur = whole(0, 9);
                    word("slips");
                    text.slips = whole(0, 100);
                    word("rain");
                    text.rain = whole(0, 100);
                }
                case 1 -> tell(1, text.men++);
                case 2 -> tell(2, text.deeds++);
                case 3 -> clauseLine();
                case 4 -> text.unsure.add(use(3, new HashSet<>(text.unsure)));
                default -> didLine();
            }
        }

        void clauseLine() {
            Clause c = new Clause();
            tell(3, text.clauses.size());
            word("on");
            c.man = use(1, Set.of());
            word("ink");
            c.ink = whole(1, 40);
            c.form = FORMS.indexOf(need(FORMS.contains(here().word)).word);
            c.first = use(2, Set.of());
            c.second = c.form < 2 ? -2 : use(2, Set.of(c.first));
            text.clauses.add(c);
        }

        void didLine() {
            Did d = new Did();
            d.man = use(1, Set.of());
            word("day");
            d.day = whole(0, 40);
            d.kept = need(here().word.equals("kept") || here().word.equals("breach")).word.equals("kept");
            if (!here().word.isEmpty() && !here().word.equals(";")) {
                d.deeds.add(use(2, d.deeds));
                while (here().word.equals(",")) {
                    at++;
                    d.deeds.add(use(2, d.deeds));
                }
            }
            text.dids.add(d);
        }

        void all() {
            try {
                line();
                while (!here().word.isEmpty()) {
                    word(";");
                    line();
                }
                if (text.men == 0 || text.deeds == 0) {
                    fault(6, here());
                }
            } catch (FormFault f) {
                // the fault is in the list
            }
        }

        int[] firstFault() {
            int[] best = null;
            for (int[] f : faults) {
                if (best == null || f[0] < best[0] || f[0] == best[0] && f[1] < best[1]) {
                    best = f;
                }
            }
            return best;
        }
    }

    int feed(int a, int b, int c, int d, int e) {
        if (tape.length() + 20 > 900) {
            return -1;
        }
        for (int v : new int[] {a, b, c, d, e}) {
            for (int i = 3; i >= 0; i--) {
                tape.append((char) (v >> 8 * i & 0xff));
            }
        }
        return tape.length();
    }

    int city(int n) {
        if (n < 0 || n > tape.length()) {
            return no(2);
        }
        Parser p = new Parser(tape.substring(0, n));
        tape.setLength(0);
        p.all();
        int[] f = p.firstFault();
        fault = f == null ? 0 : f[1];
        if (f != null) {
            place = f[0];
            return no(4);
        }
        text = p.text;
        now = new State();
        int k = text.clauses.size();
        now.ink = new int[k];
        now.man = new int[k];
        Arrays.fill(now.man, -1);
        now.turned = new boolean[k];
        for (int c = 0; c < k; c++) {
            pressIn(now, c, text.clauses.get(c).man);
        }
        start = now.copy();
        undo.clear();
        images.clear();
        return yes(text.men);
    }

    int where() {
        return trouble == 4 ? place : -1;
    }

    int no(int number) {
        trouble = number;
        return -1;
    }

    int yes(int answer) {
        trouble = 0;
        return answer;
    }

    boolean man(int m) {
        return text != null && m >= 0 && m < text.men;
    }

    boolean clause(int c) {
        return text != null && c >= 0 && c < text.clauses.size();
    }

    boolean set(int s) {
        return s >= 0 && s < sets();
    }

    int sets() {
        int n = 1;
        for (int d = 0; d < text.deeds; d++) {
            n *= 2;
        }
        return n;
    }

    // ---- now

    static boolean has(int set, int d) {
        return (set & 1 << d) != 0;
    }

    boolean keepsIn(int c, boolean turned, int set) {
        Clause k = text.clauses.get(c);
        boolean a = has(set, k.first);
        boolean b = k.second >= 0 && has(set, k.second);
        return switch (k.form) {
            case 0 -> a != turned;
            case 1 -> a == turned;
            case 2 -> turned ? !b || a : !a || b;
            case 3 -> turned ? !a || !b : a || b;
            case 4 -> turned ? a || b : !a || !b;
            default -> turned ? a == b : a != b;
        };
    }

    boolean keepsAll(List<Integer> cs, boolean[] turned, int set) {
        for (int c : cs) {
            if (!keepsIn(c, turned[c], set)) {
                return false;
            }
        }
        return true;
    }

    List<Integer> waysUnder(List<Integer> cs, boolean[] turned) {
        List<Integer> out = new ArrayList<>();
        for (int s = 0; s < sets(); s++) {
            if (keepsAll(cs, turned, s)) {
                out.add(s);
            }
        }
        return out;
    }

    List<Integer> bindingIn(State s, int m, int days) {
        List<Integer> out = new ArrayList<>();
        for (int c = 0; c < s.ink.length; c++) {
            if (s.ink[c] - days > 0 && (m < 0 || s.man[c] == m)) {
                out.add(c);
            }
        }
        return out;
    }

    List<Integer> waysOf(int m, int days) {
        return waysUnder(bindingIn(now, m, days), now.turned);
    }

    static int bits(List<Integer> xs) {
        int b = 0;
        for (int x : xs) {
            b += 1 << x;
        }
        return b;
    }

    static List<List<Integer>> parts(List<Integer> all) {
        List<List<Integer>> out = new ArrayList<>();
        out.add(new ArrayList<>());
        for (int x : all) {
            int n = out.size();
            for (int i = 0; i < n; i++) {
                List<Integer> more = new ArrayList<>(out.get(i));
                more.add(x);
                out.add(more);
            }
        }
        return out;
    }

    static List<Integer> without(List<Integer> all, List<Integer> part) {
        List<Integer> out = new ArrayList<>(all);
        out.removeAll(part);
        return out;
    }

    int clause(int c, int what) {
        if (!clause(c) || what < 0 || what > 6) {
            return no(1);
        }
        Clause k = text.clauses.get(c);
        return yes(new int[] {k.form, k.first, k.second, now.man[c], now.ink[c], now.turned[c] ? 1 : 0, k.ink}[what]);
    }

    int man(int m, int what) {
        if (!man(m) || what < 0 || what > 2) {
            return no(1);
        }
        int on = 0;
        int bind = 0;
        int sum = 0;
        for (int c = 0; c < now.ink.length; c++) {
            if (now.man[c] == m) {
                on += 1 << c;
                bind += now.ink[c] > 0 ? 1 << c : 0;
                sum += now.ink[c];
            }
        }
        return yes(new int[] {on, bind, sum}[what]);
    }

    int keeps(int c, int s) {
        return !clause(c) ? no(1) : !set(s) ? no(2) : yes(keepsIn(c, now.turned[c], s) ? 1 : 0);
    }

    int may(int m, int s) {
        return !man(m) ? no(1) : !set(s) ? no(2) : yes(waysOf(m, 0).contains(s) ? 1 : 0);
    }

    int ways(int m) {
        return !man(m) ? no(1) : yes(waysOf(m, 0).size());
    }

    int wayAt(int m, int i) {
        if (!man(m) || i < 0 || i >= waysOf(m, 0).size()) {
            return no(1);
        }
        return yes(waysOf(m, 0).get(i));
    }

    int can(int m) {
        if (!man(m)) {
            return no(1);
        }
        int b = 0;
        for (int s : waysOf(m, 0)) {
            b |= s;
        }
        return yes(b);
    }

    int must(int m) {
        if (!man(m)) {
            return no(1);
        }
        int b = sets() - 1;
        for (int s : waysOf(m, 0)) {
            b &= s;
        }
        return yes(waysOf(m, 0).isEmpty() ? 0 : b);
    }

    int idlest(int m) {
        if (!man(m)) {
            return no(1);
        }
        for (int n = 0; n <= 6; n++) {
            for (int s : waysOf(m, 0)) {
                if (Integer.bitCount(s) == n) {
                    return yes(s);
                }
            }
        }
        return yes(-2);
    }

    int stuck() {
        if (text == null) {
            return no(1);
        }
        int b = 0;
        for (int m = 0; m < text.men; m++) {
            b += waysOf(m, 0).isEmpty() ? 1 << m : 0;
        }
        return yes(b);
    }

    int mostBound() {
        if (text == null) {
            return no(1);
        }
        for (int n = 0; n <= 64; n++) {
            for (int m = 0; m < text.men; m++) {
                if (waysOf(m, 0).size() == n) {
                    return yes(m);
                }
            }
        }
        throw new IllegalStateException();
    }

    // ---- what bars, what frees

    int bar(int m) {
        if (!man(m)) {
            return no(1);
        }
        int best = -2;
        for (List<Integer> p : parts(bindingIn(now, m, 0))) {
            if (waysUnder(p, now.turned).isEmpty()) {
                int b = bits(p);
                if (best == -2 || p.size() < Integer.bitCount(best) || p.size() == Integer.bitCount(best) && b < best) {
                    best = b;
                }
            }
        }
        return yes(best);
    }

    int ink(List<Integer> cs) {
        int sum = 0;
        for (int c : cs) {
            sum += now.ink[c];
        }
        return sum;
    }

    List<Integer> freeing(int m, boolean byInk) {
        List<Integer> all = bindingIn(now, m, 0);
        List<Integer> best = null;
        for (List<Integer> p : parts(all)) {
            if (waysUnder(without(all, p), now.turned).isEmpty()) {
                continue;
            }
            int cost = byInk ? ink(p) : p.size();
            int bestCost = best == null ? 1000 : byInk ? ink(best) : best.size();
            if (cost < bestCost || cost == bestCost && bits(p) < bits(best)) {
                best = p;
            }
        }
        return best;
    }

    int free(int m) {
        return !man(m) ? no(1) : yes(bits(freeing(m, false)));
    }

    int cheap(int m) {
        return !man(m) ? no(1) : yes(bits(freeing(m, true)));
    }

    int price(int m) {
        return !man(m) ? no(1) : yes(ink(freeing(m, true)));
    }

    int idle(int m) {
        if (!man(m)) {
            return no(1);
        }
        List<Integer> all = bindingIn(now, m, 0);
        int b = 0;
        for (int c : all) {
            b += waysUnder(without(all, List.of(c)), now.turned).equals(waysOf(m, 0)) ? 1 << c : 0;
        }
        return yes(b);
    }

    int heaviest(int m) {
        if (!man(m)) {
            return no(1);
        }
        List<Integer> all = bindingIn(now, m, 0);
        for (int n = 64; n >= 0; n--) {
            for (int c : all) {
                if (waysUnder(without(all, List.of(c)), now.turned).size() == n) {
                    return yes(c);
                }
            }
        }
        return yes(-2);
    }

    int feared(int m) {
        if (!man(m)) {
            return no(1);
        }
        int b = 0;
        for (int c : bindingIn(now, -1, 0)) {
            List<Integer> more = new ArrayList<>(bindingIn(now, m, 0));
            more.add(c);
            if (now.man[c] != m && !waysOf(m, 0).isEmpty() && waysUnder(more, now.turned).isEmpty()) {
                b += 1 << c;
            }
        }
        return yes(b);
    }

    // ---- spread over men: rows are counted up like numbers

    int[] spreadRow() {
        List<Integer> all = bindingIn(now, -1, 0);
        int n = all.size();
        for (int men = 0; men <= 8; men++) {
            int[] row = new int[n];
            while (men > 0 || n == 0) {
                if (spreads(all, row, men)) {
                    int[] out = new int[now.ink.length + 1];
                    Arrays.fill(out, -2);
                    for (int i = 0; i < n; i++) {
                        out[all.get(i)] = row[i];
                    }
                    out[now.ink.length] = men;
                    return out;
                }
                int i = n - 1;
                while (i >= 0 && row[i] == men - 1) {
                    row[i--] = 0;
                }
                if (i < 0) {
                    break;
                }
                row[i]++;
            }
        }
        throw new IllegalStateException();
    }

    boolean spreads(List<Integer> all, int[] row, int men) {
        for (int g = 0; g < men; g++) {
            List<Integer> group = new ArrayList<>();
            for (int i = 0; i < row.length; i++) {
                if (row[i] == g) {
                    group.add(all.get(i));
                }
            }
            if (waysUnder(group, now.turned).isEmpty()) {
                return false;
            }
        }
        return true;
    }

    int spread() {
        return text == null ? no(1) : yes(spreadRow()[now.ink.length]);
    }

    int spreadAt(int c) {
        return !clause(c) ? no(1) : yes(spreadRow()[c]);
    }

    int together() {
        if (text == null) {
            return no(1);
        }
        int best = 0;
        for (List<Integer> p : parts(bindingIn(now, -1, 0))) {
            int b = bits(p);
            boolean better = p.size() > Integer.bitCount(best) || p.size() == Integer.bitCount(best) && b < best;
            if (better && !waysUnder(p, now.turned).isEmpty()) {
                best = b;
            }
        }
        return yes(best);
    }

    // ---- days to come

    int ink(int c, int n) {
        return !clause(c) ? no(1) : n < 0 || n > 60 ? no(2) : yes(now.ink[c] < n ? 0 : now.ink[c] - n);
    }

    int waysIn(int m, int n) {
        return !man(m) ? no(1) : n < 0 || n > 60 ? no(2) : yes(waysOf(m, n).size());
    }

    int freeIn(int m) {
        if (!man(m)) {
            return no(1);
        }
        for (int n = 0; ; n++) {
            if (!waysOf(m, n).isEmpty()) {
                return yes(n);
            }
        }
    }

    int clearIn(int m) {
        if (!man(m)) {
            return no(1);
        }
        int most = 0;
        for (int c : bindingIn(now, m, 0)) {
            most = Math.max(most, now.ink[c]);
        }
        return yes(most);
    }

    int mayIn(int m, int s) {
        if (!man(m)) {
            return no(1);
        }
        if (!set(s)) {
            return no(2);
        }
        int most = 0;
        for (int c : bindingIn(now, m, 0)) {
            if (!keepsIn(c, now.turned[c], s)) {
                most = Math.max(most, now.ink[c]);
            }
        }
        return yes(most);
    }

    // ---- read the wrong way round

    BigInteger weight(int set) {
        boolean[] turned = new boolean[now.ink.length];
        for (int k = 0; k < text.unsure.size(); k++) {
            turned[text.unsure.get(k)] = has(set, k);
        }
        BigInteger w = BigInteger.ONE;
        for (Did d : text.dids) {
            boolean kept = keepsAll(bindingIn(start, d.man, d.day), turned, bits(new ArrayList<>(d.deeds)));
            w = w.multiply(BigInteger.valueOf(kept == d.kept ? 100 - text.slips : text.slips));
        }
        return w;
    }

    List<Integer> fitting() {
        List<Integer> out = new ArrayList<>();
        for (int s = 0; s < 1 << text.unsure.size(); s++) {
            if (weight(s).signum() > 0) {
                out.add(s);
            }
        }
        return out;
    }

    int fits() {
        return text == null ? no(1) : yes(fitting().size());
    }

    int fitAt(int i) {
        return text == null || i < 0 || i >= fitting().size() ? no(1) : yes(fitting().get(i));
    }

    long part(BigInteger up, BigInteger low, boolean lower) {
        trouble = 0;
        if (up.signum() == 0) {
            return lower ? 1 : 0;
        }
        BigInteger g = up.gcd(low);
        return (lower ? low : up).divide(g).longValueExact();
    }

    long odds(int k, boolean lower) {
        if (text == null || k < 0 || k >= text.unsure.size()) {
            return no(1);
        }
        BigInteger up = BigInteger.ZERO;
        BigInteger low = BigInteger.ZERO;
        for (int s : fitting()) {
            low = low.add(weight(s));
            up = has(s, k) ? up.add(weight(s)) : up;
        }
        return part(up, low, lower);
    }

    int likeliest() {
        if (text == null) {
            return no(1);
        }
        int best = -2;
        for (int s : fitting()) {
            best = best == -2 || weight(s).compareTo(weight(best)) > 0 ? s : best;
        }
        return yes(best);
    }

    int[] asking() {
        int[] best = {-2, -2};
        for (int k = 0; k < text.unsure.size(); k++) {
            int with = 0;
            for (int s : fitting()) {
                with += has(s, k) ? 1 : 0;
            }
            int left = Math.max(with, fitting().size() - with);
            if (!fitting().isEmpty() && (best[0] == -2 || left < best[1])) {
                best = new int[] {k, left};
            }
        }
        return best;
    }

    int ask() {
        return text == null ? no(1) : yes(asking()[0]);
    }

    int askLeaves() {
        return text == null ? no(1) : yes(asking()[1]);
    }

    int judge() {
        if (text == null) {
            return no(1);
        }
        for (int i = 0; i < text.dids.size(); i++) {
            Did d = text.dids.get(i);
            int set = bits(new ArrayList<>(d.deeds));
            if (d.kept != keepsAll(bindingIn(start, d.man, d.day), new boolean[now.ink.length], set)) {
                return yes(i);
            }
        }
        return yes(-2);
    }

    // ---- merchant and clause: the four pairs, [shaves][read][whose]

    static int[][][] gains(int chain) {
        return new int[][][] {{{2, 2}, {1, 1}}, {{4, 0}, {-chain, 3}}};
    }

    int shaves(int chain, boolean shaved, boolean read, boolean ofClause) {
        if (text == null || chain < 0 || chain > 9) {
            no(text == null ? 1 : 2);
            return -100;
        }
        return yes(gains(chain)[shaved ? 1 : 0][read ? 1 : 0][ofClause ? 1 : 0]);
    }

    List<Integer> restsOf(int chain) {
        int[][][] g = gains(chain);
        List<Integer> out = new ArrayList<>();
        for (int s = 0; s < 2; s++) {
            for (int r = 0; r < 2; r++) {
                if (g[s][r][0] >= g[1 - s][r][0] && g[s][r][1] >= g[s][1 - r][1]) {
                    out.add(10 * s + r);
                }
            }
        }
        return out;
    }

    int rests(int chain) {
        return text == null ? no(1) : chain < 0 || chain > 9 ? no(2) : yes(restsOf(chain).size());
    }

    int rest(int chain) {
        if (text == null || chain < 0 || chain > 9) {
            return no(text == null ? 1 : 2);
        }
        return yes(restsOf(chain).isEmpty() ? -2 : restsOf(chain).get(0));
    }

    // ---- rain: over all that can be washed off

    long overRain(int m, int what, int set, boolean lower) {
        List<Integer> all = bindingIn(now, m, 0);
        BigInteger up = BigInteger.ZERO;
        for (List<Integer> gone : parts(all)) {
            BigInteger w = BigInteger.valueOf(text.rain).pow(gone.size())
                    .multiply(BigInteger.valueOf(100 - text.rain).pow(all.size() - gone.size()));
            List<Integer> ways = waysUnder(without(all, gone), now.turned);
            int times = what == 0 ? (ways.contains(set) ? 1 : 0) : what == 1 ? (ways.isEmpty() ? 0 : 1) : ways.size();
            up = up.add(w.multiply(BigInteger.valueOf(times)));
        }
        return part(up, BigInteger.valueOf(100).pow(all.size()), lower);
    }

    long mayOdds(int m, int set, boolean lower) {
        return !man(m) ? no(1) : !set(set) ? no(2) : overRain(m, 0, set, lower);
    }

    long freeOdds(int m, boolean lower) {
        return !man(m) ? no(1) : overRain(m, 1, 0, lower);
    }

    long mean(int m, boolean lower) {
        return !man(m) ? no(1) : overRain(m, 2, 0, lower);
    }

    List<State> rainDays(int seed, int n) {
        List<State> out = new ArrayList<>();
        State s = now.copy();
        long x = seed;
        out.add(s.copy());
        for (int i = 0; i < n; i++) {
            for (int c = 0; c < s.ink.length; c++) {
                s.ink[c] = s.ink[c] > 0 ? s.ink[c] - 1 : 0;
            }
            for (int c : bindingIn(s, -1, 0)) {
                x = (75 * x + 74) % 65537;
                if (x % 100 < text.rain) {
                    s.ink[c] = 0;
                }
            }
            out.add(s.copy());
        }
        return out;
    }

    boolean drawable(int seed, int n) {
        return seed >= 0 && seed <= 65536 && n >= 0 && n <= 60;
    }

    int rained(int seed, int n) {
        return text == null ? no(1) : !drawable(seed, n) ? no(2)
                : yes(bits(bindingIn(rainDays(seed, n).get(n), -1, 0)));
    }

    int freeBy(int m, int seed, int n) {
        if (!man(m)) {
            return no(1);
        }
        if (!drawable(seed, n)) {
            return no(2);
        }
        List<State> days = rainDays(seed, n);
        for (int i = 0; i <= n; i++) {
            if (!waysUnder(bindingIn(days.get(i), m, 0), now.turned).isEmpty()) {
                return yes(i);
            }
        }
        return yes(-2);
    }

    // ---- acts

    void act() {
        undo.add(now.copy());
        if (undo.size() > 16) {
            undo.remove(0);
        }
    }

    int day() {
        if (text == null) {
            return no(1);
        }
        act();
        int b = 0;
        for (int c = 0; c < now.ink.length; c++) {
            if (now.ink[c] > 0 && --now.ink[c] == 0) {
                b += 1 << c;
            }
        }
        now.days++;
        return yes(b);
    }

    int pressIn(State s, int c, int m) {
        int b = 0;
        s.man[c] = m;
        s.ink[c] = text.clauses.get(c).ink;
        for (int o = 0; o < s.ink.length; o++) {
            if (o != c && s.man[o] == m && s.ink[o] > 0) {
                s.ink[o] = s.ink[o] > text.blur ? s.ink[o] - text.blur : 0;
                b += s.ink[o] == 0 ? 1 << o : 0;
            }
        }
        return b;
    }

    int press(int c, int m) {
        if (!clause(c) || !man(m)) {
            return no(1);
        }
        act();
        return yes(pressIn(now, c, m));
    }

    boolean wash(int c) {
        if (!clause(c) || now.ink[c] == 0) {
            no(clause(c) ? 5 : 1);
            return false;
        }
        act();
        now.ink[c] = 0;
        trouble = 0;
        return true;
    }

    int turn(int c) {
        if (!clause(c)) {
            return no(1);
        }
        act();
        now.turned[c] = !now.turned[c];
        return yes(now.turned[c] ? 1 : 0);
    }

    boolean undo() {
        trouble = undo.isEmpty() ? 6 : 0;
        if (trouble == 0) {
            now = undo.remove(undo.size() - 1);
        }
        return trouble == 0;
    }

    int image() {
        if (text == null || images.size() == 3) {
            return no(text == null ? 1 : 3);
        }
        images.add(now.copy());
        return yes(images.size() - 1);
    }

    boolean back(int i) {
        if (i < 0 || i >= images.size()) {
            trouble = 1;
            return false;
        }
        now = images.get(i).copy();
        undo.clear();
        trouble = 0;
        return true;
    }

    // ---- what is told

    int led(int i) {
        List<Integer> out = new ArrayList<>();
        for (int c = 0; text != null && c < now.ink.length; c++) {
            if (now.ink[c] == 0) {
                out.add(c);
            }
        }
        if (i < 0 || i >= out.size()) {
            throw new NoSuchElementException();
        }
        return out.get(i);
    }

    int size(int what) {
        if (what < 0 || what > 11) {
            return -1;
        }
        if (what == 11) {
            return tape.length();
        }
        if (text == null) {
            return 0;
        }
        return new int[] {text.blur, text.slips, text.rain, text.men, text.deeds, text.clauses.size(),
            text.unsure.size(), text.dids.size(), now.days, undo.size(), images.size()}[what];
    }
}
