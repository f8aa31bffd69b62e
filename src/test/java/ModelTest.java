/** Runs of calls by number: each answer, and the digest behind it, as the model answers. */
public final class ModelTest {
    private static final int RUNS = 400;
    /** No object is promised more; and no single step of a run makes more calls than MOST_IN_A_STEP. */
    private static final int CALLS = 512;
    private static final int MOST_IN_A_STEP = 32;
    private static final int PAIR_RUNS = 120;
    private final Due due = new Due();
    private long seed;
    private SmallMakers x;
    private Model m;
    private int focus;
    private int calls;

    public static void main(String[] args) {
        ModelTest t = new ModelTest();
        for (int run = 0; run < RUNS; run++) t.run(run);
        for (int run = 0; run < PAIR_RUNS; run++) t.pairsOfMany(run);
        t.due.end();
    }

    private int below(int n) {
        seed = seed * 6364136223846793005L + 1442695040888963407L;
        return (int) ((seed >>> 33) % n);
    }

    /** Mostly within a to b, now and then just outside or far off. */
    private int near(int a, int b) {
        int r = below(60);
        if (r == 0) return a - 1;
        if (r == 1) return b + 1;
        if (r == 2) return new int[] {Integer.MIN_VALUE, Integer.MAX_VALUE, -1, 0, 1 << 30}[below(5)];
        return a + below(b - a + 1);
    }

    private void run(int number) {
        seed = number * 7919L + 17;
        x = new SmallMakers();
        m = new Model();
        focus = number % 6;
        calls = 0;
        for (int i = 0; calls <= CALLS - MOST_IN_A_STEP; i++) {
            due.about("run " + number + " step " + i);
            call();
            same(m.digest(), x.digest(), "digest()");
        }
        due.holds(calls <= CALLS, "no more calls than are promised");
    }

    /** Each call of x goes through here once, so that they are counted. */
    private void same(long want, long got, String call) {
        calls++;
        due.is(want, got, call);
    }

    /** Many things that fit few others, so that what one is given turns many. */
    private void pairsOfMany(int number) {
        seed = number * 104729L + 5;
        x = new SmallMakers();
        m = new Model();
        calls = 0;
        due.about("pairs run " + number);
        int few = 6 + below(7), wide = 4 + below(30), error = below(6);
        for (int i = 0; i < 24; i++) {
            int p = m.things.stream().filter(t -> t.part == 1).count() < few && below(2) == 0 ? 1 : 0;
            same(m.thing(p, 0), x.thing(p, 0), "thing(" + p + ", 0)");
            int v = 100 + below(wide), e = below(error + 1);
            same(m.measure(i, v, e), x.measure(i, v, e), "measure(" + i + ", " + v + ", " + e + ")");
        }
        for (int i = 0; i < 8; i++) {
            int p = below(2), a = -1 - below(wide), b = a + below(wide);
            for (int w = 9; w < 34; w++) {
                int what = w == 9 ? 0 : w;
                same(m.pairs(p, 1 - p, a, b, what), x.pairs(p, 1 - p, a, b, what),
                    "pairs(" + p + ", " + (1 - p) + ", " + a + ", " + b + ", " + what + ")");
            }
        }
        due.holds(calls <= CALLS, "no more calls than are promised");
    }

    private void call() {
        int area = below(3) == 0 ? below(6) : focus;
        switch (area) {
            case 0 -> drawing();
            case 1 -> chains();
            case 2 -> things();
            case 3 -> machines();
            case 4 -> shops();
            default -> looks();
        }
    }

    private void drawing() {
        int p = near(0, 7), g = near(0, 3);
        switch (below(7)) {
            case 0 -> {
                int what = near(0, 2), v = near(0, new int[] {6, 999, 3}[Math.floorMod(what, 3)]);
                same(m.part(p, what, v), x.part(p, what, v), "part(" + p + ", " + what + ", " + v + ")");
            }
            case 1 -> {
                int k = near(0, 6);
                same(m.as(p, k), x.as(p, k), "as(" + p + ", " + k + ")");
            }
            case 2 -> same(m.size(p), x.size(p), "size(" + p + ")");
            case 3 -> {
                int what = near(0, 1), v = near(0, below(3) == 0 ? 999 : 12);
                same(m.grade(g, what, v), x.grade(g, what, v), "grade(" + g + ", " + what + ", " + v + ")");
            }
            case 4 -> same(m.price(p, g), x.price(p, g), "price(" + p + ", " + g + ")");
            case 5 -> {
                int d = near(-4, 4), v = below(2) * near(0, 99);
                same(m.counted(p, d, v), x.counted(p, d, v), "counted(" + p + ", " + d + ", " + v + ")");
            }
            default -> {
                int what = near(0, 9);
                same(m.count(what), x.count(what), "count(" + what + ")");
            }
        }
    }

    private String text() {
        StringBuilder s = new StringBuilder();
        int terms = 1 + below(6) + (below(25) == 0 ? 1 : 0), gap = 0;
        for (int i = 0; i < terms; i++) {
            int p = below(focus == 3 ? 3 : 8), sign = i % 2 == 0 ? 1 : -1;
            if (below(4) == 0) sign = -sign;
            s.append(sign > 0 ? '+' : '-').append((char) ('a' + p));
            gap += sign * m.size(p);
        }
        int around = below(40);
        s.append('=').append(gap - around + below(9) - 4).append('~').append(gap + around + below(9) - 4);
        if (below(8) == 0) s.insert(below(s.length()), "+-=~0123456789abh i".charAt(below(19)));
        if (below(16) == 0) s.deleteCharAt(below(s.length()));
        return s.toString();
    }

    private void write(String text) {
        for (int at = 0; at < text.length(); at += 8) {
            long w = Due.packed(text.substring(at, Math.min(at + 8, text.length())));
            same(m.letters(w), x.letters(w), "letters(" + w + ")");
            same(m.fault(), x.fault(), "fault() of " + m.page);
        }
    }

    private void chains() {
        switch (below(9)) {
            case 0, 1 -> {
                if (below(4) != 0) same(m.blank(), x.blank(), "blank()");
                String text = text();
                write(text);
                same(m.chain(), x.chain(), "chain() of " + text);
            }
            case 2 -> {
                long w = seed << below(40) >>> below(60);
                same(m.letters(w), x.letters(w), "letters(" + w + ")");
            }
            case 3, 4 -> {
                int c = near(0, 2), what = near(0, 6);
                same(m.of(c, what), x.of(c, what), "of(" + c + ", " + what + ")");
            }
            case 5, 6 -> {
                int c = near(0, 2), side = near(0, 1);
                same(m.odds(c, side), x.odds(c, side), "odds(" + c + ", " + side + ")");
            }
            case 7 -> {
                int n = near(1, 6), what = below(3) == 0 ? 0 : near(10, 9 + Math.max(1, Math.min(6, n)));
                same(m.giveOut(n, what), x.giveOut(n, what), "giveOut(" + n + ", " + what + ")");
            }
            default -> {
                same(m.fault(), x.fault(), "fault()");
                same(m.blank(), x.blank(), "blank()");
            }
        }
    }

    private void things() {
        int t = near(0, Math.max(1, m.things.size()) - 1);
        switch (below(6)) {
            case 0 -> {
                int p = near(0, focus == 2 ? 1 : 2), lot = near(0, 11);
                same(m.thing(p, lot), x.thing(p, lot), "thing(" + p + ", " + lot + ")");
            }
            case 1, 2 -> {
                int v = below(9) == 0 ? near(0, 1999) : 90 + below(20), error = near(0, below(9) == 0 ? 99 : 3);
                same(m.measure(t, v, error), x.measure(t, v, error), "measure(" + t + ", " + v + ", " + error + ")");
            }
            case 3 -> {
                int side = near(0, 1);
                same(m.known(t, side), x.known(t, side), "known(" + t + ", " + side + ")");
            }
            default -> {
                int p = near(0, 1), q = below(5) == 0 ? near(0, 2) : 1 - p;
                int a = below(9) == 0 ? near(-9999, 9999) : -below(12), b = below(9) == 0 ? near(-9999, 9999) : a + below(20);
                int what = near(10, 33);
                same(m.pairs(p, q, a, b, 0), x.pairs(p, q, a, b, 0), "pairs(" + p + ", " + q + ", " + a + ", " + b + ", 0)");
                same(m.pairs(p, q, a, b, what), x.pairs(p, q, a, b, what),
                    "pairs(" + p + ", " + q + ", " + a + ", " + b + ", " + what + ")");
                boolean all = focus == 2 && below(6) == 0;
                for (int w = 10; w < 34 && all; w++) {
                    same(m.pairs(p, q, a, b, w), x.pairs(p, q, a, b, w),
                        "pairs(" + p + ", " + q + ", " + a + ", " + b + ", " + w + ")");
                }
            }
        }
    }

    private void machines() {
        int c = near(0, 5), t = near(0, Math.max(1, m.things.size()) - 1);
        switch (below(12)) {
            case 0 -> {
                int p = near(0, 2), lot = near(0, 11);
                same(m.thing(p, lot), x.thing(p, lot), "thing(" + p + ", " + lot + ")");
            }
            case 1 -> same(m.measure(t, 100 + t % 5, t % 3), x.measure(t, 100 + t % 5, t % 3), "measure(" + t + ")");
            case 2, 3, 4 -> same(m.put(c, t), x.put(c, t), "put(" + c + ", " + t + ")");
            case 5 -> {
                int p = near(0, 7);
                same(m.inside(c, p), x.in(c, p), "in(" + c + ", " + p + ")");
            }
            case 6 -> {
                int n = near(0, 2);
                same(m.right(c, n), x.right(c, n), "right(" + c + ", " + n + ")");
            }
            case 7 -> {
                same(m.all(), x.all(), "all()");
                for (int w = -1; w < 4; w++) same(m.swap(w), x.swap(w), "swap(" + w + ")");
            }
            case 8, 9 -> {
                int as = near(0, 2);
                same(m.told(c, as), x.told(c, as), "told(" + c + ", " + as + ")");
            }
            case 10 -> {
                same(m.blamed(), x.blamed(), "blamed()");
                same(m.called(), x.called(), "called()");
            }
            default -> {
                if (m.chains.size() < 2) {
                    String text = below(2) == 0 ? "+a-b=-4~3" : "+b-c+a=90~110";
                    same(m.blank(), x.blank(), "blank()");
                    write(text);
                    same(m.chain(), x.chain(), "chain()");
                }
            }
        }
    }

    private void shops() {
        int s = near(0, 3), p = near(0, 2);
        switch (below(10)) {
            case 0 -> {
                int v = near(1, 24);
                same(m.hours(s, v), x.hours(s, v), "hours(" + s + ", " + v + ")");
            }
            case 1, 2, 3 -> {
                int cost = below(6) == 0 ? 0 : near(1, below(2) == 0 ? 5 : 999), hours = near(1, below(3) == 0 ? 99 : 20);
                same(m.offer(s, p, cost, hours), x.offer(s, p, cost, hours),
                    "offer(" + s + ", " + p + ", " + cost + ", " + hours + ")");
            }
            case 4 -> {
                int day = near(1, below(3) == 0 ? 60 : 6);
                same(m.order(p, day), x.order(p, day), "order(" + p + ", " + day + ")");
            }
            case 5, 6 -> {
                int but = near(-1, 3), what = new int[] {0, near(10, 15), near(20, 25)}[below(3)];
                same(m.given(but, what), x.given(but, what), "given(" + but + ", " + what + ")");
            }
            case 7, 8 -> {
                int days = near(0, below(2) == 0 ? 30 : 4);
                same(m.late(s, days), x.late(s, days), "late(" + s + ", " + days + ")");
            }
            default -> {
                int share = near(1, 100);
                same(m.foretold(s, share), x.foretold(s, share), "foretold(" + s + ", " + share + ")");
            }
        }
    }

    private void looks() {
        int l = near(0, Math.max(1, m.looks.size()) - 1), f = near(0, 3);
        switch (below(10)) {
            case 0 -> {
                int cost = near(1, below(4) == 0 ? 999 : 4);
                same(m.look(cost), x.look(cost), "look(" + cost + ")");
            }
            case 1, 2, 3 -> {
                int v = below(3) == 0 ? near(0, 99) : 10 * below(10);
                same(m.finds(l, f, v), x.finds(l, f, v), "finds(" + l + ", " + f + ", " + v + ")");
            }
            case 4 -> {
                int v = below(3) == 0 ? near(0, 99) : new int[] {0, 50, 75, 64, 36, 91}[below(6)];
                same(m.asked(f, v), x.asked(f, v), "asked(" + f + ", " + v + ")");
            }
            case 5, 6 -> {
                same(m.enough(0), x.enough(0), "enough(0)");
                same(m.enough(1), x.enough(1), "enough(1)");
                int what = near(0, 1);
                same(m.enough(what), x.enough(what), "enough(" + what + ")");
            }
            case 7 -> {
                int v = near(0, below(2) == 0 ? 99 : 6);
                same(m.made(v), x.made(v), "made(" + v + ")");
            }
            case 8 -> {
                int k = near(1, Math.max(2, m.row.size()) - 1), what = near(0, 1);
                same(m.drift(k, what), x.drift(k, what), "drift(" + k + ", " + what + ")");
            }
            default -> {
                if (below(8) == 0) same(m.unmade(), x.unmade(), "unmade()");
            }
        }
    }
}
