import java.math.BigInteger;
import java.util.ArrayList;
import java.util.Arrays;
import java.util.HashMap;
import java.util.List;
import java.util.Map;
import java.util.TreeMap;
import java.util.regex.Matcher;
import java.util.regex.Pattern;

/** The document once more, by the slowest and plainest ways, so that the class can be held against it. */
final class Model {
    private static final int NONE = -1, UNKNOWN = -101, OUTSIDE = -102, STATE = -103, FULL = -104;
    private static final Pattern CHAIN =
        Pattern.compile("((?:[+-][a-h]){1,6})=(-?[0-9]{1,4})~(-?[0-9]{1,4})", Pattern.DOTALL);

    record Chain(String terms, int least, int greatest) {
        int many() { return terms.length() / 2; }
        int sign(int i) { return terms.charAt(2 * i) == '+' ? 1 : -1; }
        int part(int i) { return terms.charAt(2 * i + 1) - 'a'; }
    }
    record Measure(int v, int error) { }
    record Offer(int cost, int hours) { }
    record Order(int number, int part, int day) { }
    static final class Thing {
        int part, lot, machine = NONE;
        List<Measure> measures = new ArrayList<>();
    }

    int[] kind = new int[8], name = new int[8], grade = new int[8];
    int[][] off = new int[8][9];
    int[] span = {8, 4, 2, 1}, rate = {1, 2, 4, 8};
    String page = "";
    List<Chain> chains = new ArrayList<>();
    List<Thing> things = new ArrayList<>();
    int[] toldAs = new int[6];
    int[] hoursADay = {8, 8, 8, 8};
    Map<Integer, Offer> offers = new TreeMap<>();
    List<List<Integer>> lates = List.of(new ArrayList<>(), new ArrayList<>(), new ArrayList<>(), new ArrayList<>());
    List<Order> orders = new ArrayList<>();
    List<int[]> looks = new ArrayList<>();
    int[] asked = new int[4];
    List<Integer> row = new ArrayList<>();
    int gaveOut, gave;

    Model() { Arrays.fill(name, 100); }

    static boolean in0(int v, int n) { return v >= 0 && v < n; }
    static boolean in(int v, int a, int b) { return v >= a && v <= b; }

    int part(int p, int what, int v) {
        if (!in0(p, 8) || !in0(what, 3)) return UNKNOWN;
        if (!in(v, 0, new int[] {6, 999, 3}[what])) return OUTSIDE;
        if (what == 0 && things.stream().anyMatch(t -> t.part == p)) return STATE;
        int[] r = new int[][] {kind, name, grade}[what];
        int was = r[p];
        r[p] = v;
        return was;
    }
    int as(int p, int k) {
        if (!in0(p, 8)) return UNKNOWN;
        if (!in0(k, 7)) return OUTSIDE;
        boolean is = k == 0 || k == kind[p] || k == 1 && kind[p] == 6;
        return is ? p : NONE;
    }
    int size(int p) {
        if (!in0(p, 8)) return UNKNOWN;
        int n = name[p];
        return new int[] {n, n - 1, n, n - (n - n % 50) / 50, n, n + 2, n - 1 + 1}[kind[p]];
    }
    int grade(int g, int what, int v) {
        if (!in0(g, 4) || !in0(what, 2)) return UNKNOWN;
        if (!in(v, 0, new int[] {99, 999}[what])) return OUTSIDE;
        int[] r = new int[][] {span, rate}[what];
        int was = r[g];
        r[g] = v;
        return was;
    }
    int price(int p, int g) {
        if (!in0(p, 8) || !in0(g, 4)) return UNKNOWN;
        int r = rate[g];
        return new int[] {r, 2 * r, r + 3, 3 * r, (r - r % 2) / 2, r + 10, 2 * r + 1}[kind[p]];
    }
    int counted(int p, int d, int v) {
        if (!in0(p, 8) || !in(d, -4, 4)) return UNKNOWN;
        if (!in(v, 0, 99)) return OUTSIDE;
        int was = off[p][d + 4];
        off[p][d + 4] = v;
        return was;
    }
    int letters(long w) {
        StringBuilder more = new StringBuilder();
        boolean ended = false;
        for (byte b : BigInteger.valueOf(w).toByteArray().length > 8 ? new byte[0] : bytes(w)) {
            int c = b & 255;
            if (c > 126 || c != 0 && ended) return OUTSIDE;
            if (c == 0) ended = true;
            else more.append((char) c);
        }
        if (page.length() + more.length() > 40) return FULL;
        page += more;
        return page.length();
    }
    private static byte[] bytes(long w) {
        byte[] b = new byte[8];
        java.nio.ByteBuffer.wrap(b).order(java.nio.ByteOrder.LITTLE_ENDIAN).putLong(w);
        return b;
    }
    int blank() {
        int was = page.length();
        page = "";
        return was;
    }
    int fault() {
        for (int i = 1; i <= page.length(); i++) {
            Matcher m = CHAIN.matcher(page.substring(0, i));
            if (!m.matches() && !m.hitEnd()) return i - 1;
        }
        return page.length();
    }
    int chain() {
        Matcher m = CHAIN.matcher(page);
        if (!m.matches()) return STATE;
        int a = Integer.parseInt(m.group(2)), b = Integer.parseInt(m.group(3));
        if (a > b) return OUTSIDE;
        if (chains.size() == 6) return FULL;
        chains.add(new Chain(m.group(1), a, b));
        page = "";
        return chains.size() - 1;
    }
    private int gap(Chain c) {
        int g = 0;
        for (int i = 0; i < c.many(); i++) g += c.sign(i) * size(c.part(i));
        return g;
    }
    private int spans(Chain c, int[] grades) {
        int s = 0;
        for (int i = 0; i < c.many(); i++) s += span[grades[c.part(i)]];
        return s;
    }
    private boolean holds(Chain c, int[] grades) {
        return gap(c) - spans(c, grades) >= c.least && gap(c) + spans(c, grades) <= c.greatest;
    }
    int of(int n, int what) {
        if (!in0(n, chains.size())) return -100001;
        if (!in0(what, 7)) return -100002;
        Chain c = chains.get(n);
        int s = spans(c, grade);
        return new int[] {c.many(), c.least, c.greatest, gap(c), gap(c) - s, gap(c) + s, holds(c, grade) ? 1 : 0}[what];
    }
    private BigInteger above, below;
    private void choices(Chain c, int i, int sum, BigInteger ways) {
        if (ways.signum() == 0) return;
        if (i == c.many()) {
            below = below.add(ways);
            if (in(sum, c.least, c.greatest)) above = above.add(ways);
            return;
        }
        int[] o = off[c.part(i)];
        if (Arrays.stream(o).sum() == 0) choices(c, i + 1, sum, ways);
        else for (int d = -4; d <= 4; d++) choices(c, i + 1, sum + c.sign(i) * d, ways.multiply(BigInteger.valueOf(o[d + 4])));
    }
    long odds(int n, int side) {
        if (!in0(n, chains.size()) || !in0(side, 2)) return -1;
        above = below = BigInteger.ZERO;
        choices(chains.get(n), 0, gap(chains.get(n)), BigInteger.ONE);
        BigInteger g = above.gcd(below);
        return (side == 0 ? above : below).divide(g).longValueExact();
    }
    int giveOut(int n, int what) {
        if (!in(n, 1, 6) || what != 0 && !in(what, 10, 9 + n)) return OUTSIDE;
        if (gaveOut == 30) return STATE;
        gaveOut++;
        int[] best = null;
        int least = 0;
        for (int code = 0; code < 1 << 2 * n; code++) {
            int[] g = grade.clone();
            int sum = 0;
            for (int i = 0; i < n; i++) {
                g[i] = code >> 2 * (n - 1 - i) & 3;
                sum += price(i, g[i]);
            }
            if (best != null && sum >= least) continue;
            if (!chains.stream().allMatch(c -> holds(c, g))) continue;
            best = g;
            least = sum;
        }
        if (best == null) return NONE;
        return what == 0 ? least : best[what - 10];
    }

    int thing(int p, int lot) {
        if (!in0(p, 8)) return UNKNOWN;
        if (!in0(lot, 12)) return OUTSIDE;
        if (things.size() == 24) return FULL;
        Thing t = new Thing();
        t.part = p;
        t.lot = lot;
        things.add(t);
        return things.size() - 1;
    }
    int measure(int t, int v, int error) {
        if (!in0(t, things.size())) return UNKNOWN;
        if (!in(v, 0, 1999) || !in(error, 0, 99)) return OUTSIDE;
        List<Measure> m = things.get(t).measures;
        if (m.size() == 3) return FULL;
        m.add(new Measure(v, error));
        return m.size();
    }
    private static int[] common(List<Measure> some) {
        int a = -9999, b = 9999;
        for (Measure m : some) {
            a = Math.max(a, m.v - m.error);
            b = Math.min(b, m.v + m.error);
        }
        return a <= b ? new int[] {a, b} : null;
    }
    /** Both ends; null: nothing is known. */
    private int[] ends(int t) {
        List<Measure> m = things.get(t).measures;
        if (m.isEmpty()) return null;
        int[] c = common(m);
        if (c == null && m.size() == 3) c = common(List.of(m.get(0), m.get(1)));
        if (c == null && m.size() == 3) c = common(List.of(m.get(0), m.get(2)));
        if (c == null && m.size() == 3) c = common(List.of(m.get(1), m.get(2)));
        return c;
    }
    int known(int t, int side) {
        if (!in0(t, things.size())) return UNKNOWN;
        if (!in0(side, 2)) return OUTSIDE;
        if (things.get(t).measures.isEmpty()) return -1001;
        int[] e = ends(t);
        return e == null ? -1002 : e[side];
    }
    private List<Integer> ps, qs;
    private boolean[][] fit;
    private Map<Integer, Integer> memo;
    private int most(int i, int used) {
        if (i == ps.size()) return 0;
        int key = i << 24 | used;
        Integer kept = memo.get(key);
        if (kept != null) return kept;
        int best = most(i + 1, used);
        for (int j = 0; j < qs.size(); j++) {
            if (fit[i][j] && (used >> j & 1) == 0) best = Math.max(best, 1 + most(i + 1, used | 1 << j));
        }
        memo.put(key, best);
        return best;
    }
    int pairs(int p, int q, int least, int greatest, int what) {
        if (!in0(p, 8) || !in0(q, 8) || p == q) return UNKNOWN;
        if (!in(least, -9999, 9999) || !in(greatest, -9999, 9999) || greatest < least) return OUTSIDE;
        if (what != 0 && !in(what, 10, 33)) return OUTSIDE;
        ps = new ArrayList<>();
        qs = new ArrayList<>();
        for (int i = 0; i < things.size(); i++) {
            if (things.get(i).part == p) ps.add(i);
            if (things.get(i).part == q) qs.add(i);
        }
        fit = new boolean[ps.size()][qs.size()];
        for (int i = 0; i < ps.size(); i++) {
            for (int j = 0; j < qs.size(); j++) {
                int[] a = ends(ps.get(i)), b = ends(qs.get(j));
                fit[i][j] = a != null && b != null && a[0] - b[1] >= least && a[1] - b[0] <= greatest;
            }
        }
        memo = new HashMap<>();
        int all = most(0, 0), left = all, used = 0;
        Map<Integer, Integer> partner = new HashMap<>();
        for (int i = 0; i < ps.size(); i++) {
            for (int j = 0; j < qs.size(); j++) {
                if (!fit[i][j] || (used >> j & 1) != 0 || 1 + most(i + 1, used | 1 << j) != left) continue;
                used |= 1 << j;
                left--;
                partner.put(ps.get(i), qs.get(j));
                break;
            }
        }
        return what == 0 ? all : partner.getOrDefault(what - 10, NONE);
    }

    int put(int m, int t) {
        if (!in0(m, 6) || !in0(t, things.size())) return UNKNOWN;
        int was = in(m, things.get(t).part);
        if (was == t) return NONE;
        if (was != NONE) things.get(was).machine = NONE;
        things.get(t).machine = m;
        return was;
    }
    int inside(int m, int p) {
        if (!in0(m, 6) || !in0(p, 8)) return UNKNOWN;
        return in(m, p);
    }
    private int in(int m, int p) {
        for (int i = 0; i < things.size(); i++) {
            if (things.get(i).machine == m && things.get(i).part == p) return i;
        }
        return NONE;
    }
    private boolean rightIn(int m, Chain c) {
        int a = 0, b = 0;
        for (int i = 0; i < c.many(); i++) {
            int t = in(m, c.part(i));
            int[] e = t == NONE ? null : ends(t);
            if (e == null) return false;
            a += c.sign(i) > 0 ? e[0] : -e[1];
            b += c.sign(i) > 0 ? e[1] : -e[0];
        }
        return a >= c.least && b <= c.greatest;
    }
    private boolean rightAll(int m) { return chains.stream().allMatch(c -> rightIn(m, c)); }
    int right(int m, int c) {
        if (!in0(m, 6) || !in0(c, chains.size())) return UNKNOWN;
        return rightIn(m, chains.get(c)) ? 1 : 0;
    }
    int all() {
        int bits = 0;
        for (int m = 0; m < 6; m++) if (rightAll(m)) bits += 1 << m;
        return bits;
    }
    int swap(int what) {
        if (!in0(what, 3)) return OUTSIDE;
        for (int p = 0; p < 8; p++) {
            for (int m = 0; m < 6; m++) {
                for (int o = 0; o < 6; o++) {
                    int a = in(m, p), b = in(o, p);
                    if (m == o || a == NONE || b == NONE || rightAll(m) && rightAll(o)) continue;
                    things.get(a).machine = o;
                    things.get(b).machine = m;
                    boolean good = rightAll(m) && rightAll(o);
                    things.get(a).machine = m;
                    things.get(b).machine = o;
                    if (good) return new int[] {p, m, o}[what];
                }
            }
        }
        return NONE;
    }
    int told(int m, int as) {
        if (!in0(m, 6)) return UNKNOWN;
        if (!in0(as, 3)) return OUTSIDE;
        int was = toldAs[m];
        toldAs[m] = as;
        return was;
    }
    private boolean has(int m, int set) {
        return things.stream().anyMatch(t -> t.machine == m && (set >> t.lot & 1) == 1);
    }
    int blamed() {
        for (int many = 0; many <= 12; many++) {
            for (int set = 0; set < 4096; set++) {
                if (Integer.bitCount(set) != many) continue;
                boolean good = true;
                for (int m = 0; m < 6; m++) {
                    if (toldAs[m] == 1 && !has(m, set) || toldAs[m] == 2 && has(m, set)) good = false;
                }
                if (good) return set;
            }
        }
        return NONE;
    }
    int called() {
        int set = blamed();
        if (set == NONE) return NONE;
        int bits = 0;
        for (int m = 0; m < 6; m++) if (has(m, set)) bits += 1 << m;
        return bits;
    }

    int hours(int s, int v) {
        if (!in0(s, 4)) return UNKNOWN;
        if (!in(v, 1, 24)) return OUTSIDE;
        int was = hoursADay[s];
        hoursADay[s] = v;
        return was;
    }
    int offer(int s, int p, int cost, int hours) {
        if (!in0(s, 4) || !in0(p, 8)) return UNKNOWN;
        if (!in(cost, 0, 999) || cost != 0 && !in(hours, 1, 99)) return OUTSIDE;
        Offer was = cost == 0 ? offers.remove(8 * s + p) : offers.put(8 * s + p, new Offer(cost, hours));
        return was == null ? 0 : was.cost;
    }
    int order(int p, int day) {
        if (!in0(p, 8)) return UNKNOWN;
        if (!in(day, 1, 60)) return OUTSIDE;
        if (orders.size() == 6) return FULL;
        orders.add(new Order(orders.size(), p, day));
        return orders.size() - 1;
    }
    /** The days all are done on; null: it can't be so. */
    private int[] days(int[] shop) {
        int[] done = new int[shop.length];
        List<Order> turn = new ArrayList<>(orders);
        turn.sort((a, b) -> a.day != b.day ? a.day - b.day : a.number - b.number);
        for (int s = 0; s < 4; s++) {
            int sum = 0;
            for (Order o : turn) {
                if (shop[o.number] != s) continue;
                Offer f = offers.get(8 * s + o.part);
                if (f == null) return null;
                sum += f.hours;
                while (done[o.number] * hoursADay[s] < sum) done[o.number]++;
                if (done[o.number] > o.day) return null;
            }
        }
        return done;
    }
    int given(int but, int what) {
        if (!in(but, -1, 3)) return UNKNOWN;
        if (what != 0 && !in(what, 10, 15) && !in(what, 20, 25)) return OUTSIDE;
        if (gave == 40) return STATE;
        gave++;
        int n = orders.size(), least = 0;
        int[] best = null;
        for (int code = 0; code < 1 << 2 * n; code++) {
            int[] shop = new int[n];
            int sum = 0;
            boolean good = true;
            for (int i = 0; i < n; i++) {
                shop[i] = code >> 2 * (n - 1 - i) & 3;
                Offer f = offers.get(8 * shop[i] + orders.get(i).part);
                if (f == null || shop[i] == but) good = false;
                else sum += f.cost;
            }
            if (!good || best != null && sum >= least || days(shop) == null) continue;
            best = shop;
            least = sum;
        }
        if (best == null) return NONE;
        if (what == 0) return least;
        int i = what % 10;
        if (i >= n) return NONE;
        return what < 20 ? best[i] : days(best)[i];
    }
    int late(int s, int days) {
        if (!in0(s, 4)) return UNKNOWN;
        if (!in(days, 0, 30)) return OUTSIDE;
        if (lates.get(s).size() == 16) return FULL;
        lates.get(s).add(days);
        return lates.get(s).size();
    }
    int foretold(int s, int share) {
        if (!in0(s, 4)) return UNKNOWN;
        if (!in(share, 1, 100)) return OUTSIDE;
        List<Integer> sorted = new ArrayList<>(lates.get(s));
        sorted.sort(null);
        for (int i = 0; i < sorted.size(); i++) {
            if ((i + 1) * 100 >= share * sorted.size()) return sorted.get(i);
        }
        return NONE;
    }

    int look(int cost) {
        if (!in(cost, 1, 999)) return OUTSIDE;
        if (looks.size() == 6) return FULL;
        looks.add(new int[] {cost, 0, 0, 0, 0});
        return looks.size() - 1;
    }
    int finds(int l, int f, int v) {
        if (!in0(l, looks.size()) || !in0(f, 4)) return UNKNOWN;
        if (!in(v, 0, 99)) return OUTSIDE;
        int was = looks.get(l)[1 + f];
        looks.get(l)[1 + f] = v;
        return was;
    }
    int asked(int f, int v) {
        if (!in0(f, 4)) return UNKNOWN;
        if (!in(v, 0, 99)) return OUTSIDE;
        int was = asked[f];
        asked[f] = v;
        return was;
    }
    int enough(int what) {
        if (!in0(what, 2)) return OUTSIDE;
        int best = NONE, bestCost = 0;
        for (int set = 0; set < 1 << looks.size(); set++) {
            int cost = 0;
            boolean good = true;
            for (int f = 0; f < 4; f++) {
                java.math.BigDecimal lacks = java.math.BigDecimal.ONE;
                for (int l = 0; l < looks.size(); l++) {
                    if ((set >> l & 1) == 1) lacks = lacks.multiply(java.math.BigDecimal.valueOf(100 - looks.get(l)[1 + f], 2));
                }
                java.math.BigDecimal found = java.math.BigDecimal.ONE.subtract(lacks);
                if (found.compareTo(java.math.BigDecimal.valueOf(asked[f], 2)) < 0) good = false;
            }
            for (int l = 0; l < looks.size(); l++) if ((set >> l & 1) == 1) cost += looks.get(l)[0];
            boolean better = best == NONE || cost < bestCost
                || cost == bestCost && Integer.bitCount(set) < Integer.bitCount(best);
            if (!good || !better) continue;
            best = set;
            bestCost = cost;
        }
        return best == NONE || what == 0 ? best : bestCost;
    }
    int made(int v) {
        if (!in(v, 0, 99)) return OUTSIDE;
        if (row.size() == 12) return FULL;
        row.add(v);
        return row.size();
    }
    int unmade() {
        int was = row.size();
        row.clear();
        return was;
    }
    private void sums(int from, int k, int sum, List<Integer> to) {
        if (k == 0) to.add(sum);
        else for (int i = from; i < row.size(); i++) sums(i + 1, k - 1, sum + row.get(i), to);
    }
    int drift(int k, int what) {
        int n = row.size();
        if (!in(k, 1, n - 1) || !in0(what, 2)) return OUTSIDE;
        int all = row.stream().mapToInt(v -> v).sum();
        int first = row.stream().limit(k).mapToInt(v -> v).sum();
        List<Integer> sums = new ArrayList<>();
        sums(0, k, 0, sums);
        double due = (double) k * all / n;
        if (what == 1) return sums.size();
        return (int) sums.stream().filter(s -> Math.abs(s - due) >= Math.abs(first - due) - 1e-7).count();
    }

    int count(int what) {
        if (!in0(what, 10)) return OUTSIDE;
        return new int[] {chains.size(), things.size(), orders.size(), looks.size(), row.size(), page.length(), gaveOut,
            gave, (int) things.stream().filter(t -> t.machine == NONE).count(),
            things.stream().mapToInt(t -> t.measures.size()).sum()}[what];
    }
    long digest() {
        List<Long> all = new ArrayList<>();
        for (int p = 0; p < 8; p++) {
            for (long v : new long[] {kind[p], name[p], grade[p], size(p)}) all.add(v);
            for (int c : off[p]) all.add((long) c);
        }
        for (int g = 0; g < 4; g++) {
            all.add((long) span[g]);
            all.add((long) rate[g]);
        }
        for (int c = 0; c < chains.size(); c++) for (int w = 0; w < 7; w++) all.add((long) of(c, w));
        for (int t = 0; t < things.size(); t++) {
            for (long v : new long[] {things.get(t).part, things.get(t).lot, known(t, 0), known(t, 1)}) all.add(v);
        }
        for (int m = 0; m < 6; m++) {
            for (int p = 0; p < 8; p++) all.add((long) in(m, p));
            all.add((long) toldAs[m]);
        }
        for (int s = 0; s < 4; s++) {
            all.add((long) hoursADay[s]);
            for (int p = 0; p < 8; p++) {
                Offer o = offers.getOrDefault(8 * s + p, new Offer(0, 0));
                all.add((long) o.cost);
                all.add((long) o.hours);
            }
            for (int d : lates.get(s)) all.add((long) d);
        }
        for (Order o : orders) {
            all.add((long) o.part);
            all.add((long) o.day);
        }
        for (int[] l : looks) for (int v : l) all.add((long) v);
        for (int v : asked) all.add((long) v);
        for (int v : row) all.add((long) v);
        for (char c : page.toCharArray()) all.add((long) c);
        for (int w = 0; w < 10; w++) all.add((long) count(w));
        long h = 283;
        for (long v : all) h = 31 * h + v;
        return h;
    }
}
