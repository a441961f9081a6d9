import java.util.ArrayDeque;
import java.util.ArrayList;
import java.util.Arrays;
import java.util.Deque;
import java.util.HashMap;
import java.util.HashSet;
import java.util.List;
import java.util.Map;
import java.util.Set;
import java.util.TreeMap;
import java.util.TreeSet;
import java.util.regex.Matcher;
import java.util.regex.Pattern;

/** The document once more, as slow and literal as can be, to hold SpinStrip's answers against. */
final class Naive {
    static final int R = -100000;

    static final class Tie {
        final int from, to;
        final boolean along;
        Tie(int from, int to, boolean along) { this.from = from; this.to = to; this.along = along; }
    }

    static final class Held {
        int[] j, f, p;
        int state;
        Held(Naive n) { j = n.j.clone(); f = n.f.clone(); p = n.p.clone(); state = n.state; }
        void into(Naive n) { n.j = j.clone(); n.f = f.clone(); n.p = p.clone(); n.state = state; n.table = null; }
    }

    StringBuilder tape = new StringBuilder();
    int faultPlace = -1;
    int wide, tall, rings, seed, state;
    List<Tie> ties = new ArrayList<>();
    int[] j = {}, f = {}, p = {};
    Deque<Held> undo = new ArrayDeque<>();
    Held[] slots = new Held[3];
    TreeMap<Integer, List<Integer>> table;

    int sites() { return wide * tall; }

    // ---- the text ----

    static final class Token {
        String text; int place;
        Token(String text, int place) { this.text = text; this.place = place; }
        boolean isInt() { return text.matches("[0-9]{1,4}"); }
        int number() { return Integer.parseInt(text); }
    }

    private static final String INT = "([0-9]{1,4} )";
    private static final String J = "((- )?" + INT + ")";
    private static final String WAY = "((across|along) )";
    private static final Pattern TEXT = Pattern.compile("strip " + INT + INT + "; (((across|along|field) " + J + "; )|(ring " + WAY + "; )"
        + "|(tie " + INT + WAY + J + "; )|(pull " + INT + J + "; )|(pin " + INT + "(up|down) ; )|(seed " + INT + "; ))*");

    static boolean goesOn(String spaced) {
        Matcher m = TEXT.matcher(spaced);
        return m.matches() || m.hitEnd();
    }

    int feed(int... w) {
        if (tape.length() + 20 > 2000) return -1;
        for (int a : w) for (int k = 3; k >= 0; k--) tape.append((char) ((a >>> (8 * k)) & 255));
        return tape.length();
    }

    int back(int n) {
        if (n < 0 || n > tape.length()) return -1;
        tape.setLength(tape.length() - n);
        return tape.length();
    }

    int fault(int number, int place) { faultPlace = place; return number; }

    int read() {
        String text = tape.toString();
        tape.setLength(0);
        List<Token> tokens = new ArrayList<>();
        Matcher m = Pattern.compile("[a-z]+|[0-9]+|[-;]|[\t\n\r ]+|[^a-z0-9;\t\n\r -]").matcher(text);
        StringBuilder spaced = new StringBuilder();
        while (m.find()) {
            if (m.group().trim().isEmpty() && m.group().matches("[\t\n\r ]+")) continue;
            Token t = new Token(m.group(), m.start());
            boolean token = t.text.matches("[a-z]+|[0-9]{1,4}|[-;]");
            spaced.append(t.text).append(' ');
            if (!token || !goesOn(spaced.toString())) return fault(1, t.place);
            if (tokens.size() == 400) return fault(2, t.place);
            tokens.add(t);
        }
        if (!TEXT.matcher(spaced).matches()) return fault(1, text.length());
        return build(tokens);
    }

    private static List<Tie> tiesOf(int wide, int tall, int rings) {
        List<Tie> out = new ArrayList<>();
        for (int r = 0; r < tall; r++) for (int c = 0; c < wide; c++) {
            if (c < wide - 1) out.add(new Tie(r * wide + c, r * wide + c + 1, false));
            else if ((rings & 1) != 0 && wide > 2) out.add(new Tie(r * wide + c, r * wide, false));
        }
        for (int r = 0; r < tall; r++) for (int c = 0; c < wide; c++) {
            if (r < tall - 1) out.add(new Tie(r * wide + c, r * wide + c + wide, true));
            else if ((rings & 2) != 0 && tall > 2) out.add(new Tie(r * wide + c, c, true));
        }
        return out;
    }

    private static int indexOf(List<Tie> ties, int site, boolean along) {
        for (int i = 0; i < ties.size(); i++) if (ties.get(i).from == site && ties.get(i).along == along) return i;
        return -1;
    }

    private int build(List<Token> t) {
        int w = t.get(1).number(), l = t.get(2).number(), g = 0, s = 0;
        if (w < 1 || w > 4) return fault(3, t.get(1).place);
        if (l < 1 || l > 16 || w * l > 16) return fault(3, t.get(2).place);
        for (int i = 0; i + 1 < t.size(); i++) if (t.get(i).text.equals("ring")) g |= t.get(i + 1).text.equals("across") ? 1 : 2;
        List<Tie> made = tiesOf(w, l, g);
        Integer[] tieJ = new Integer[made.size()], fields = new Integer[w * l];
        int[] pins = new int[w * l];
        int[] all = new int[3];
        int i = 4;
        while (i < t.size()) {
            List<Token> tell = new ArrayList<>();
            while (!t.get(i).text.equals(";")) tell.add(t.get(i++));
            i++;
            String head = tell.get(0).text;
            Token last = tell.get(tell.size() - 1);
            int value = last.isInt() ? last.number() * (tell.get(tell.size() - 2).text.equals("-") ? -1 : 1) : 0;
            int site = tell.get(1).isInt() ? tell.get(1).number() : 0;
            int at = -1;
            if (head.equals("tie") || head.equals("pull") || head.equals("pin")) {
                if (site >= w * l) return fault(4, tell.get(1).place);
                if (head.equals("tie")) {
                    at = indexOf(made, site, tell.get(2).text.equals("along"));
                    if (at < 0) return fault(4, tell.get(1).place);
                }
            }
            if (last.isInt() && !head.equals("seed") && (value < -3 || value > 3)) return fault(3, last.place);
            switch (head) {
                case "across": all[0] = value; break;
                case "along": all[1] = value; break;
                case "field": all[2] = value; break;
                case "tie": tieJ[at] = value; break;
                case "pull": fields[site] = value; break;
                case "pin": pins[site] = last.text.equals("up") ? 1 : 2; break;
                case "seed": s = value; break;
                default: break;
            }
        }
        faultPlace = -1;
        wide = w; tall = l; rings = g; seed = s; ties = made; p = pins;
        j = new int[made.size()];
        for (int k = 0; k < j.length; k++) j[k] = tieJ[k] != null ? tieJ[k] : all[made.get(k).along ? 1 : 0];
        f = new int[w * l];
        for (int k = 0; k < f.length; k++) f[k] = fields[k] != null ? fields[k] : all[2];
        state = 0;
        for (int k = 0; k < p.length; k++) if (p[k] == 1) state |= 1 << k;
        undo.clear();
        Arrays.fill(slots, null);
        table = null;
        return 0;
    }

    // ---- states ----

    static boolean up(int s, int k) { return (s & (1 << k)) != 0; }
    boolean has(int site) { return site >= 0 && site < sites(); }

    boolean lawful(int s) {
        if (sites() == 0 || s < 0 || s >= 1 << sites()) return false;
        for (int k = 0; k < sites(); k++) if (p[k] == 1 && !up(s, k) || p[k] == 2 && up(s, k)) return false;
        return true;
    }

    int energy(int s) {
        int e = 0;
        for (int k = 0; k < j.length; k++) e += up(s, ties.get(k).from) == up(s, ties.get(k).to) ? -j[k] : j[k];
        for (int k = 0; k < f.length; k++) e += up(s, k) ? -f[k] : f[k];
        return e;
    }

    int brokenIn(int s) {
        int n = 0;
        for (int k = 0; k < j.length; k++) {
            boolean alike = up(s, ties.get(k).from) == up(s, ties.get(k).to);
            if (j[k] > 0 && !alike || j[k] < 0 && alike) n++;
        }
        return n;
    }

    TreeMap<Integer, List<Integer>> table() {
        if (table == null) {
            table = new TreeMap<>();
            for (int s = 0; s < 1 << sites(); s++) if (lawful(s)) table.computeIfAbsent(energy(s), q -> new ArrayList<>()).add(s);
        }
        return table;
    }

    List<Integer> all() {
        List<Integer> out = new ArrayList<>();
        for (int s = 0; s < 1 << sites(); s++) if (lawful(s)) out.add(s);
        return out;
    }

    List<Integer> turnsOf(int s) {
        List<Integer> out = new ArrayList<>();
        for (int k = 0; k < sites(); k++) if (p[k] == 0) out.add(s ^ (1 << k));
        return out;
    }

    boolean stuckAt(int s) {
        int e = energy(s);
        for (int t : turnsOf(s)) if (energy(t) < e) return false;
        return true;
    }

    int[] fallOf(int s) {
        int turns = 0;
        while (!stuckAt(s)) {
            int best = s;
            for (int t : turnsOf(s)) if (energy(t) < energy(best)) best = t;
            s = best;
            turns++;
        }
        return new int[] {s, turns};
    }

    // ---- by hand ----

    void done() { undo.push(new Held(this)); if (undo.size() > 40) undo.removeLast(); }

    boolean tie(int site, boolean along, int v) {
        int at = indexOf(ties, site, along);
        if (at < 0 || v < -3 || v > 3 || j[at] == v) return false;
        done(); j[at] = v; table = null;
        return true;
    }

    boolean pull(int site, int v) {
        if (!has(site) || v < -3 || v > 3 || f[site] == v) return false;
        done(); f[site] = v; table = null;
        return true;
    }

    boolean pin(int site, int how) {
        if (!has(site) || how < 0 || how > 2 || p[site] == how) return false;
        done(); p[site] = how; table = null;
        if (how == 1) state |= 1 << site;
        if (how == 2) state &= ~(1 << site);
        return true;
    }

    static long lot(long x) { return (x * 1103515245L + 12345L) % (1L << 31); }

    boolean glass(int s) {
        if (sites() == 0 || s < 0 || s > 9999) return false;
        done();
        long x = s;
        for (int k = 0; k < j.length; k++) { x = lot(x); j[k] = (x / 65536) % 2 == 1 ? 1 : -1; }
        table = null;
        return true;
    }

    boolean turn(int site) {
        if (!has(site) || p[site] != 0) return false;
        done(); state ^= 1 << site;
        return true;
    }

    int fall() {
        if (sites() == 0) return -1;
        int[] end = fallOf(state);
        if (end[1] > 0) { done(); state = end[0]; }
        return end[1];
    }

    boolean undo() {
        if (undo.isEmpty()) return false;
        undo.pop().into(this);
        return true;
    }

    boolean hold(int slot) {
        if (slot < 0 || slot > 2) return false;
        slots[slot] = new Held(this);
        return true;
    }

    boolean restore(int slot) {
        if (slot < 0 || slot > 2 || slots[slot] == null) return false;
        slots[slot].into(this);
        undo.clear();
        return true;
    }

    // ---- answers ----

    int site(int site, int what) {
        if (!has(site)) return R;
        int a = indexOf(ties, site, false), b = indexOf(ties, site, true);
        switch (what) {
            case 0: return site / wide;
            case 1: return site % wide;
            case 2: return f[site];
            case 3: return p[site];
            case 4: return a < 0 ? 100 : j[a];
            case 5: return b < 0 ? 100 : j[b];
            case 6: return up(state, site) ? 1 : 0;
            case 7: return energy(state ^ (1 << site)) - energy(state);
            default: return R;
        }
    }

    List<Integer> statesAt(int i) {
        int n = 0;
        for (List<Integer> l : table().values()) if (n++ == i) return l;
        return null;
    }

    int level(int i, int what) {
        if (i == -1) return table().size();
        List<Integer> l = statesAt(i);
        if (l == null) return R;
        switch (what) {
            case 0: return energy(l.get(0));
            case 1: return l.size();
            case 2: return l.get(0);
            case 3: return l.stream().mapToInt(Integer::bitCount).min().getAsInt();
            case 4: return l.stream().mapToInt(Integer::bitCount).max().getAsInt();
            default: return R;
        }
    }

    int both(int e, int ups) {
        int n = 0;
        for (int s : table().getOrDefault(e, List.of())) if (Integer.bitCount(s) == ups) n++;
        return n;
    }

    int broken(int many) {
        int n = 0;
        for (int s : all()) if (brokenIn(s) == many) n++;
        return n;
    }

    int ground(int what) {
        if (sites() == 0) return R;
        switch (what) {
            case 0: return table().firstKey();
            case 1: return statesAt(0).size();
            case 2: return statesAt(0).get(0);
            case 3: return table().size() == 1 ? -2 : table().higherKey(table().firstKey()) - table().firstKey();
            default: return R;
        }
    }

    static int part(long a, long b, int what) {
        if (what < 0 || what > 1) return R;
        long d = java.math.BigInteger.valueOf(a).gcd(java.math.BigInteger.valueOf(b)).longValue();
        return (int) (what == 0 ? a / d : b / d);
    }

    int pair(int one, int other, int i, int what) {
        if (!has(one) || !has(other) || statesAt(i) == null) return R;
        int sum = 0;
        for (int s : statesAt(i)) sum += up(s, one) == up(s, other) ? 1 : -1;
        return part(sum, statesAt(i).size(), what);
    }

    int mean(int i, int what) {
        if (statesAt(i) == null) return R;
        int sum = 0;
        for (int s : statesAt(i)) sum += Integer.bitCount(s);
        return part(sum, statesAt(i).size(), what);
    }

    int value(int x) {
        if (x < 0 || x > 1000002) return -1;
        long sum = 0;
        for (Map.Entry<Integer, List<Integer>> l : table().entrySet()) {
            long power = 1;
            for (int k = table().firstKey(); k < l.getKey(); k++) power = power * x % 1000003;
            sum += power * l.getValue().size();
        }
        return (int) (sum % 1000003);
    }

    long joined(int slot, int i, int what) {
        if (slot < 0 || slot > 2 || slots[slot] == null) return R;
        Held mine = new Held(this);
        TreeMap<Integer, List<Integer>> here = table();
        slots[slot].into(this);
        TreeMap<Integer, List<Integer>> there = table();
        mine.into(this);
        TreeMap<Integer, Long> sum = new TreeMap<>();
        for (int a : here.keySet()) for (int b : there.keySet()) {
            sum.merge(a + b, (long) here.get(a).size() * there.get(b).size(), Long::sum);
        }
        if (i == -1) return sum.size();
        int n = 0;
        for (Map.Entry<Integer, Long> l : sum.entrySet()) {
            if (n++ == i) return what == 0 ? l.getKey() : what == 1 ? l.getValue() : R;
        }
        return R;
    }

    int state(int s, int what) {
        if (!lawful(s)) return R;
        switch (what) {
            case 0: return energy(s);
            case 1: return brokenIn(s);
            case 2: return stuckAt(s) ? 1 : 0;
            case 3: return fallOf(s)[0];
            case 4: return fallOf(s)[1];
            case 5: return table().headMap(energy(s)).size();
            default: return R;
        }
    }

    int stuck(boolean ground) {
        int n = 0;
        for (int s : all()) if (stuckAt(s) && !(ground && energy(s) == table().firstKey())) n++;
        return n;
    }

    int rows(int r, int row, int e) {
        if (r < 0 || r >= tall || row < 0 || row >= 1 << wide) return -1;
        int part = (r + 1) * wide, n = 0;
        for (int s = 0; s < 1 << part; s++) {
            if (s >> (r * wide) != row) continue;
            boolean ok = true;
            int sum = 0;
            for (int k = 0; k < part; k++) {
                if (p[k] == 1 && !up(s, k) || p[k] == 2 && up(s, k)) ok = false;
                sum += up(s, k) ? -f[k] : f[k];
            }
            for (int k = 0; k < j.length; k++) {
                Tie t = ties.get(k);
                if (t.from < part && t.to < part) sum += up(s, t.from) == up(s, t.to) ? -j[k] : j[k];
            }
            if (ok && sum == e) n++;
        }
        return n;
    }

    int square(int site) {
        if (!has(site)) return -1;
        int a = indexOf(ties, site, false), b = indexOf(ties, site, true);
        if (a < 0 || b < 0) return -2;
        int c = indexOf(ties, ties.get(a).to, true), d = indexOf(ties, ties.get(b).to, false);
        int below = 0;
        for (int k : new int[] {a, b, c, d}) {
            if (j[k] == 0) return 0;
            if (j[k] < 0) below++;
        }
        return below % 2;
    }

    int overlap(int q) {
        if (sites() == 0) return 0;
        List<Integer> g = statesAt(0);
        if (g.size() > 256) return -2;
        int n = 0;
        for (int a : g) for (int b : g) if (a < b && Integer.bitCount(a ^ b) == q) n++;
        return n;
    }

    int basin(int s) {
        if (!lawful(s) || sites() > 10) return R;
        int n = 0;
        for (int t : all()) if (fallOf(t)[0] == s) n++;
        return n;
    }

    int stiff(int one, int other) {
        if (!has(one) || !has(other) || one == other) return R;
        Integer a = null, u = null;
        for (int s : all()) {
            int e = energy(s);
            if (up(s, one) == up(s, other)) a = a == null ? e : Math.min(a, e);
            else u = u == null ? e : Math.min(u, e);
        }
        return a == null || u == null ? R : u - a;
    }

    Set<Integer> reach(int from, int most) {
        Set<Integer> seen = new HashSet<>();
        Deque<Integer> open = new ArrayDeque<>();
        if (energy(from) <= most) { seen.add(from); open.add(from); }
        while (!open.isEmpty()) for (int t : turnsOf(open.poll())) if (energy(t) <= most && seen.add(t)) open.add(t);
        return seen;
    }

    int hill(int s) {
        if (!lawful(s) || sites() > 10) return R;
        for (int e : table().keySet()) for (int t : reach(s, e)) if (energy(t) == table().firstKey()) return e;
        return 12345;
    }

    int pass(int one, int other) {
        if (!lawful(one) || !lawful(other) || sites() > 10) return R;
        for (int e : table().keySet()) if (reach(one, e).contains(other)) return e;
        return 12345;
    }

    int lakes(int e) {
        if (sites() > 10) return R;
        Set<Integer> seen = new HashSet<>();
        int n = 0;
        for (int s : all()) if (energy(s) <= e && !seen.contains(s)) { n++; seen.addAll(reach(s, e)); }
        return n;
    }

    long down(int s) {
        if (!lawful(s) || sites() > 10) return R;
        return down(s, new HashMap<>());
    }

    private long down(int s, Map<Integer, Long> known) {
        if (known.containsKey(s)) return known.get(s);
        long sum = 0;
        for (int t : turnsOf(s)) if (energy(t) < energy(s)) sum += down(t, known);
        long n = stuckAt(s) ? 1 : sum;
        known.put(s, n);
        return n;
    }

    int nearest(int s, int what) {
        if (!lawful(s)) return R;
        int best = statesAt(0).get(0);
        for (int g : statesAt(0)) if (Integer.bitCount(g ^ s) < Integer.bitCount(best ^ s)) best = g;
        return what == 0 ? best : what == 1 ? Integer.bitCount(best ^ s) : R;
    }

    int cluster(int site) {
        if (!has(site)) return -1;
        TreeSet<Integer> in = new TreeSet<>(Set.of(site));
        for (int n = 0; n < 20; n++) for (Tie t : ties) {
            if (up(state, t.from) == up(state, t.to) && (in.contains(t.from) || in.contains(t.to))) { in.add(t.from); in.add(t.to); }
        }
        int bits = 0;
        for (int k : in) bits |= 1 << k;
        return bits;
    }

    int wander(int n, int c, int what) {
        if (sites() == 0 || n < 0 || n > 200 || c < 0 || c > 100) return R;
        long x = seed;
        int s = state, least = energy(s), turned = 0;
        for (int k = 0; k < n; k++) {
            x = lot(x);
            int site = (int) (x / 65536 % sites());
            x = lot(x);
            long y = x / 65536 % 100;
            int cost = energy(s ^ (1 << site)) - energy(s);
            if (p[site] == 0 && y < 100 - c * cost) { s ^= 1 << site; turned++; }
            least = Math.min(least, energy(s));
        }
        return what == 0 ? s : what == 1 ? least : what == 2 ? turned : R;
    }

    int count(int what) {
        Set<Integer> clusters = new HashSet<>();
        for (int k = 0; k < sites(); k++) clusters.add(cluster(k));
        int n = 0;
        switch (what) {
            case 0: return wide;
            case 1: return tall;
            case 2: return state;
            case 3: return all().size();
            case 4: for (int k = 0; k < p.length; k++) if (p[k] != 0) n |= 1 << k; return n;
            case 5: return ties.size();
            case 6: return tape.length();
            case 7: return undo.size();
            case 8: for (Held h : slots) if (h != null) n++; return n;
            case 9: return seed;
            case 10: return clusters.size();
            case 11: for (int c : clusters) n = Math.max(n, Integer.bitCount(c)); return n;
            case 12: return rings;
            case 13: return all().stream().mapToInt(this::brokenIn).min().orElse(0);
            case 14: for (int k = 0; k < sites(); k++) if (square(k) == 1) n++; return n;
            default: return -1;
        }
    }
}
