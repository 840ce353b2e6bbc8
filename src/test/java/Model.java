import java.util.ArrayDeque;
import java.util.ArrayList;
import java.util.Deque;
import java.util.List;
import java.util.regex.Matcher;
import java.util.regex.Pattern;
import java.math.BigInteger;

/** A second reading of the document, with the Java library and by other ways than the class goes. */
final class Model {
    static final int BAD = -1, NO = -2, FULL = -3, NONE = -4;

    /** Views and lines are held as the document's calls tell them, 0 to 18; an empty line is null. */
    static final class State {
        List<Integer> kinds = new ArrayList<>();
        List<Integer> minds = new ArrayList<>();
        List<int[]> views = new ArrayList<>();
        List<Integer[]> papers = new ArrayList<>();

        State copy() {
            State s = new State();
            s.kinds.addAll(kinds);
            s.minds.addAll(minds);
            for (int[] v : views) {
                s.views.add(v.clone());
            }
            for (Integer[] l : papers) {
                s.papers.add(l.clone());
            }
            return s;
        }
    }

    StringBuilder text = new StringBuilder();
    State state;
    Deque<Runnable> undos = new ArrayDeque<>();
    Deque<State> kept = new ArrayDeque<>();
    List<int[]> signed = new ArrayList<>();

    Model(String first) {
        text.append(first);
        lay();
        text.setLength(0);
    }

    int write(int c) {
        if (c < 32 || c > 126) return BAD;
        if (text.length() == 200) return FULL;
        text.append((char) c);
        return text.length();
    }

    int wipe() {
        int n = text.length();
        text.setLength(0);
        return n;
    }

    private State parsed;

    private int parse() {
        State s = new State();
        int papers = 3;
        int at = 0;
        Pattern item = Pattern.compile("([pva])(\\d{1,2}(?:,\\d{1,2})*);");
        while (at < text.length()) {
            Matcher m = item.matcher(text);
            m.region(at, text.length());
            if (!m.lookingAt()) return at;
            String[] w = m.group(2).split(",");
            int[] n = new int[w.length];
            for (int i = 0; i < n.length; i++) n[i] = Integer.parseInt(w[i]);
            char c = m.group(1).charAt(0);
            if (c == 'p') {
                if (n.length != 2 || n[0] > 4 || n[1] > 5 || s.kinds.size() > 5) return at;
                s.kinds.add(n[0]);
                s.minds.add(n[1]);
                s.views.add(new int[] {9, 9, 9, 9, 9});
            } else if (c == 'v') {
                if (n.length != 3 || n[0] >= s.kinds.size() || n[1] > 4 || n[2] > 18) return at;
                s.views.get(n[0])[n[1]] = n[2];
            } else {
                if (n.length != 1 || n[0] < 1 || n[0] > 5) return at;
                papers = n[0];
            }
            at = m.end();
        }
        for (int i = 0; i < papers; i++) s.papers.add(new Integer[5]);
        parsed = s;
        return NONE;
    }

    int fault() {
        return parse();
    }

    int lay() {
        if (parse() >= 0 || parsed.kinds.isEmpty()) return NO;
        for (int m : parsed.minds) if (m >= parsed.kinds.size()) return NO;
        state = parsed;
        undos.clear();
        kept.clear();
        signed.clear();
        return state.kinds.size();
    }

    private boolean noPerson(int p) { return p < 0 || p >= state.kinds.size(); }
    private boolean noPaper(int a) { return a < 0 || a >= state.papers.size(); }
    private static boolean not(int x, int most) { return x < 0 || x > most; }

    int person(int p, int what) {
        if (noPerson(p) || not(what, 1)) return BAD;
        return (what == 0 ? state.kinds : state.minds).get(p);
    }

    int view(int p, int t) {
        return noPerson(p) || not(t, 4) ? BAD : state.views.get(p)[t];
    }

    int line(int a, int t) {
        if (noPaper(a) || not(t, 4)) return BAD;
        Integer l = state.papers.get(a)[t];
        return l == null ? NONE : l;
    }

    /** What one of a kind writes, told 0 to 18, where thought and own are told so, too. */
    static int ink(int kind, int thought, int own, int n) {
        if (kind == 3) return 9;
        if (kind == 4) return 18;
        if (kind == 1) n = 0;
        double other = kind == 2 ? 9 - thought : thought - 9;
        double sum = other * (10 - n) + (own - 9.0) * n;
        long size = (long) Math.floor(Math.abs(sum) / 10 + 1e-9);
        return 9 + (int) (sum < 0 ? -size : size);
    }

    private int ink(State s, int p, int m, int t, int n) {
        return ink(s.kinds.get(p), s.views.get(m)[t], s.views.get(p)[t], n);
    }

    int would(int p, int t, int n) {
        if (noPerson(p) || not(t, 4) || not(n, 10)) return BAD;
        return ink(state, p, state.minds.get(p), t, n);
    }

    private void change(Runnable undo) {
        undos.addLast(undo);
        if (undos.size() > 8) undos.removeFirst();
    }

    int set(int a, int p, int t, int n) {
        if (noPaper(a) || would(p, t, n) == BAD) return BAD;
        Integer[] paper = state.papers.get(a);
        Integer was = paper[t];
        change(() -> paper[t] = was);
        paper[t] = would(p, t, n);
        return paper[t];
    }

    int erase(int a, int p, int t) {
        if (noPaper(a) || noPerson(p) || not(t, 4)) return BAD;
        Integer[] paper = state.papers.get(a);
        Integer was = paper[t];
        if (was == null) return NO;
        change(() -> paper[t] = was);
        paper[t] = state.views.get(p)[t];
        return was;
    }

    private Integer carried(int p, int t, Integer says) {
        if (says == null) return null;
        int kind = state.kinds.get(p);
        if (kind == 4) return says == 18 ? 18 : says + 1;
        int goal = kind == 3 ? 9 : state.views.get(state.minds.get(p))[t];
        int steps = kind == 1 ? 2 : 1;
        int now = says;
        for (int i = 0; i < steps; i++) now += Integer.signum(goal - now);
        return now;
    }

    int copy(int a, int b, int p) {
        if (noPaper(a) || noPaper(b) || a == b || noPerson(p)) return BAD;
        Integer[] to = state.papers.get(b);
        Integer[] was = to.clone();
        change(() -> System.arraycopy(was, 0, to, 0, 5));
        int filled = 0;
        for (int t = 0; t < 5; t++) {
            to[t] = carried(p, t, state.papers.get(a)[t]);
            if (to[t] != null) filled++;
        }
        return filled;
    }

    int think(int p, int t, int v) {
        if (noPerson(p) || not(t, 4) || not(v, 18)) return BAD;
        int[] row = state.views.get(p);
        int was = row[t];
        change(() -> row[t] = was);
        row[t] = v;
        return was;
    }

    int mind(int p, int m) {
        if (noPerson(p) || noPerson(m)) return BAD;
        List<Integer> row = state.minds;
        int was = row.get(p);
        change(() -> row.set(p, was));
        row.set(p, m);
        return was;
    }

    int undo() {
        if (undos.isEmpty()) return NO;
        undos.removeLast().run();
        return undos.size();
    }

    int own(int a, int p) {
        if (noPaper(a) || noPerson(p)) return BAD;
        int bits = 0;
        for (int t = 0; t < 5; t++) {
            Integer l = state.papers.get(a)[t];
            if (l != null && l == state.views.get(p)[t]) bits += 1 << t;
        }
        return bits;
    }

    int tears(int p, int t, int v) {
        if (noPerson(p) || not(t, 4) || not(v, 18)) return BAD;
        int found = NONE;
        for (int n = 10; n >= 0; n--) if (would(p, t, n) == v) found = n;
        return found;
    }

    int whom(int p, int t, int v) {
        if (noPerson(p) || not(t, 4) || not(v, 18)) return BAD;
        int found = NONE;
        for (int m = state.kinds.size() - 1; m >= 0; m--) {
            if (m != p && ink(state, p, m, t, 0) == v) found = m;
        }
        return found;
    }

    int treaty(int p, int q, int n) {
        if (noPerson(p) || noPerson(q) || p == q || not(n, 10)) return BAD;
        int bits = 0;
        for (int t = 0; t < 5; t++) if (ink(state, p, q, t, n) == ink(state, q, p, t, n)) bits += 1 << t;
        return bits;
    }

    int round(int a, int t, int k) {
        if (noPaper(a) || not(t, 4) || not(k, 60)) return BAD;
        Integer l = state.papers.get(a)[t];
        int p = 0;
        for (int i = 0; i < k; i++) {
            l = carried(p, t, l);
            p = p + 1 == state.kinds.size() ? 0 : p + 1;
        }
        return l == null ? NONE : l;
    }

    int again(int a, int what) {
        if (noPaper(a) || not(what, 1)) return BAD;
        List<List<Integer>> were = new ArrayList<>();
        Integer[] paper = state.papers.get(a).clone();
        for (int r = 0; r <= 40; r++) {
            List<Integer> now = new ArrayList<>(java.util.Arrays.asList(paper));
            int before = were.indexOf(now);
            if (before >= 0) return what == 0 ? r : before;
            were.add(now);
            for (int p = 0; p < state.kinds.size(); p++) {
                for (int t = 0; t < 5; t++) paper[t] = carried(p, t, paper[t]);
            }
        }
        return NONE;
    }

    int least(int a, int p, int what) {
        if (noPaper(a) || noPerson(p) || not(what, 1)) return BAD;
        for (Integer l : state.papers.get(a)) if (l == null) return NONE;
        int bits = 31 - own(a, p);
        return what == 1 ? bits : Integer.toBinaryString(bits).replace("0", "").length();
    }

    int sign(int t, int v) {
        if (not(t, 4) || not(v, 18)) return BAD;
        if (signed.size() == 6) return FULL;
        signed.add(new int[] {t, v});
        return signed.size();
    }

    int forget() {
        int n = signed.size();
        signed.clear();
        return n;
    }

    int who(int what) {
        if (not(what, 1)) return BAD;
        List<Integer> found = new ArrayList<>();
        for (int code = 0; code < 6000; code++) {
            int p = code / 1000, m = code / 100 % 10, n = code % 100;
            if (noPerson(p) || noPerson(m) || p == m || n > 10) continue;
            boolean all = true;
            for (int[] s : signed) all &= ink(state, p, m, s[0], n) == s[1];
            if (all) found.add(code);
        }
        if (what == 0) return found.size();
        return found.isEmpty() ? NONE : found.get(0);
    }

    int views(int p, int t, int n) {
        if (noPerson(p) || not(t, 4) || not(n, 10)) return BAD;
        int m = state.minds.get(p);
        int bits = 0;
        for (int v = 0; v <= 18; v++) {
            boolean all = true;
            for (int[] s : signed) {
                int own = s[0] == t ? v : state.views.get(p)[s[0]];
                int thought = s[0] == t && m == p ? v : state.views.get(m)[s[0]];
                all &= ink(state.kinds.get(p), thought, own, n) == s[1];
            }
            if (all) bits += 1 << v;
        }
        return bits;
    }

    long drops(int p, int t, int v, int x, int part) {
        if (noPerson(p) || not(t, 4) || not(v, 18) || not(x, 10) || not(part, 1)) return BAD;
        // drop by drop: how likely it is to have n tears so far
        BigInteger[] chance = new BigInteger[11];
        java.util.Arrays.fill(chance, BigInteger.ZERO);
        chance[0] = BigInteger.ONE;
        for (int drop = 0; drop < 10; drop++) {
            for (int n = 10; n >= 0; n--) {
                BigInteger with = n == 0 ? BigInteger.ZERO : chance[n - 1].multiply(BigInteger.valueOf(x));
                chance[n] = chance[n].multiply(BigInteger.valueOf(10 - x)).add(with);
            }
        }
        BigInteger above = BigInteger.ZERO;
        for (int n = 0; n <= 10; n++) if (would(p, t, n) == v) above = above.add(chance[n]);
        BigInteger below = BigInteger.TEN.pow(10);
        BigInteger shared = above.gcd(below);
        return (part == 0 ? above : below).divide(shared).longValue();
    }

    int weeks(int z, int n, int what) {
        if (not(z, 9999) || n < 1 || n > 60 || not(what, 1)) return BAD;
        State s = state.copy();
        for (int k = 0; k < n; k++) {
            BigInteger x = BigInteger.valueOf(7919L * z).add(BigInteger.valueOf(6151L * k + 1));
            int draw = x.multiply(x).mod(BigInteger.valueOf(65521)).intValue() >> 1;
            int p = draw % s.kinds.size();
            int t = (draw >> 3) % 5;
            int tears = (draw >> 6) % 11;
            s.papers.get(k % s.papers.size())[t] = ink(s, p, s.minds.get(p), t, tears);
        }
        int filled = 0;
        int sum = 500;
        for (Integer[] paper : s.papers) {
            for (Integer l : paper) {
                if (l != null) {
                    filled++;
                    sum += l - 9;
                }
            }
        }
        return what == 0 ? filled : sum;
    }

    int keep() {
        if (kept.size() == 2) return FULL;
        kept.addLast(state.copy());
        return kept.size();
    }

    int back() {
        if (kept.isEmpty()) return NO;
        state = kept.removeLast();
        undos.clear();
        return kept.size();
    }

    int count(int what) {
        int filled = 0;
        for (Integer[] paper : state.papers) for (Integer l : paper) if (l != null) filled++;
        int[] all = {state.kinds.size(), state.papers.size(), filled, signed.size(), undos.size(), kept.size(),
            text.length()};
        return not(what, 6) ? BAD : all[what];
    }
}
