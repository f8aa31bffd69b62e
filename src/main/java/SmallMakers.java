import java.util.Arrays;

/**
 * A thousand small makers: a drawing of parts and of chains that must fit, the things that came and
 * their measures, machines put together, shops and orders, looks for faults, and a row that may drift.
 *
 * <p>The face tests what it is given and answers the refusals; the classes inside hold the state and
 * are only ever called with what the face has tested. All rows are made once and used again.
 */
public final class SmallMakers {
    public static final int NONE = -1, UNKNOWN = -101, OUTSIDE = -102, STATE = -103, FULL = -104;

    private static final int PARTS = 8;
    private static final int KINDS = 7;
    private static final int GRADES = 4;
    private static final int FARTHEST_OFF = 4;
    private static final int LETTERS = 40;
    private static final int CHAINS = 6;
    private static final int TERMS = 6;
    private static final int PARTS_GIVEN_OUT = 6;
    private static final int TIMES_GIVEN_OUT = 30;
    private static final int THINGS = 24;
    private static final int LOTS = 12;
    private static final int MEASURES = 3;
    private static final int MACHINES = 6;
    private static final int SHOPS = 4;
    private static final int LATE_ONES = 16;
    private static final int ORDERS = 6;
    private static final int TIMES_GIVEN = 40;
    private static final int LOOKS = 6;
    private static final int FAULTS = 4;
    private static final int ROW = 12;

    private final Drawing drawing = new Drawing();
    private final Page page = new Page();
    private final Chains chains = new Chains();
    private final GradeSearch gradeSearch = new GradeSearch();
    private final Things things = new Things();
    private final Pairing pairing = new Pairing();
    private final Machines machines = new Machines();
    private final Shops shops = new Shops();
    private final Orders orders = new Orders();
    private final Looks looks = new Looks();
    private final Row row = new Row();

    public SmallMakers() {
    }

    // ---- the drawing

    public int part(int part, int what, int v) {
        if (!named(part, PARTS) || !named(what, 3)) return UNKNOWN;
        if (!within(v, 0, drawing.greatestOf(what))) return OUTSIDE;
        if (what == 0 && things.anyOfPart(part)) return STATE;
        return exchange(drawing.rowOf(what), part, v);
    }

    public int as(int part, int kind) {
        if (!named(part, PARTS)) return UNKNOWN;
        if (!named(kind, KINDS)) return OUTSIDE;
        return drawing.isOfKind(part, kind) ? part : NONE;
    }

    public int size(int part) {
        if (!named(part, PARTS)) return UNKNOWN;
        return drawing.sizeOf(part);
    }

    public int grade(int grade, int what, int v) {
        if (!named(grade, GRADES) || !named(what, 2)) return UNKNOWN;
        if (!within(v, 0, what == 0 ? 99 : 999)) return OUTSIDE;
        return exchange(what == 0 ? drawing.span : drawing.rate, grade, v);
    }

    public int price(int part, int grade) {
        if (!named(part, PARTS) || !named(grade, GRADES)) return UNKNOWN;
        return drawing.priceOf(part, grade);
    }

    public int counted(int part, int d, int v) {
        if (!named(part, PARTS) || !within(d, -FARTHEST_OFF, FARTHEST_OFF)) return UNKNOWN;
        if (!within(v, 0, 99)) return OUTSIDE;
        return exchange(drawing.off[part], d + FARTHEST_OFF, v);
    }

    public int letters(long w) {
        int more = lettersIn(w);
        if (more == NONE) return OUTSIDE;
        if (page.n + more > LETTERS) return FULL;
        for (int i = 0; i < more; i++) page.write((int) (w >>> 8 * i & 255));
        return page.n;
    }

    public int blank() {
        int was = page.n;
        page.n = 0;
        return was;
    }

    public int fault() {
        page.read();
        return page.at;
    }

    public int chain() {
        page.read();
        if (!page.whole) return STATE;
        if (page.least > page.greatest) return OUTSIDE;
        if (chains.n >= CHAINS) return FULL;
        chains.add(page);
        page.n = 0;
        return chains.n - 1;
    }

    public int of(int chain, int what) {
        if (!named(chain, chains.n)) return -100001;
        if (!named(what, 7)) return -100002;
        return chains.about(chain, what, drawing);
    }

    public long odds(int chain, int part) {
        if (!named(chain, chains.n) || !named(part, 2)) return -1;
        return chains.oddsOf(chain, part, drawing);
    }

    public int giveOut(int n, int what) {
        if (!within(n, 1, PARTS_GIVEN_OUT)) return OUTSIDE;
        if (what != 0 && !within(what, 10, 9 + n)) return OUTSIDE;
        if (gradeSearch.times >= TIMES_GIVEN_OUT) return STATE;
        gradeSearch.search(n, drawing, chains);
        return what == 0 ? gradeSearch.least : gradeSearch.gradeFor(what - 10);
    }

    // ---- things

    public int thing(int part, int lot) {
        if (!named(part, PARTS)) return UNKNOWN;
        if (!named(lot, LOTS)) return OUTSIDE;
        if (things.n >= THINGS) return FULL;
        return things.add(part, lot);
    }

    public int measure(int thing, int v, int error) {
        if (!named(thing, things.n)) return UNKNOWN;
        if (!within(v, 0, 1999) || !within(error, 0, 99)) return OUTSIDE;
        if (things.measures[thing] >= MEASURES) return FULL;
        return things.addMeasure(thing, v, error);
    }

    public int known(int thing, int side) {
        if (!named(thing, things.n)) return UNKNOWN;
        if (!named(side, 2)) return OUTSIDE;
        return side == 0 ? things.low[thing] : things.high[thing];
    }

    public int pairs(int p, int q, int least, int greatest, int what) {
        if (!named(p, PARTS) || !named(q, PARTS) || p == q) return UNKNOWN;
        if (!within(least, -9999, 9999) || !within(greatest, least, 9999)) return OUTSIDE;
        if (what != 0 && !within(what, 10, 9 + THINGS)) return OUTSIDE;
        pairing.begin(things, p, q, least, greatest);
        pairing.pairMost();
        if (what == 0) return pairing.pairsMade();
        return pairing.partnerOf(what - 10);
    }

    // ---- machines

    public int put(int machine, int thing) {
        if (!named(machine, MACHINES) || !named(thing, things.n)) return UNKNOWN;
        return machines.take(machine, thing, things.part[thing]);
    }

    public int in(int machine, int part) {
        if (!named(machine, MACHINES) || !named(part, PARTS)) return UNKNOWN;
        return machines.holds[machine][part];
    }

    public int right(int machine, int chain) {
        if (!named(machine, MACHINES) || !named(chain, chains.n)) return UNKNOWN;
        return machines.fitsChain(machine, chain, chains, things) ? 1 : 0;
    }

    public int all() {
        return machines.rightOnes(chains, things);
    }

    public int swap(int what) {
        if (!named(what, 3)) return OUTSIDE;
        if (!machines.findSwap(chains, things)) return NONE;
        if (what == 0) return machines.swapPart;
        return what == 1 ? machines.swapOne : machines.swapOther;
    }

    public int told(int machine, int as) {
        if (!named(machine, MACHINES)) return UNKNOWN;
        if (!named(as, 3)) return OUTSIDE;
        return exchange(machines.toldAs, machine, as);
    }

    public int blamed() {
        return machines.lotsToBlame(things);
    }

    public int called() {
        int lots = machines.lotsToBlame(things);
        return lots == NONE ? NONE : machines.withLots(lots, things);
    }

    // ---- shops

    public int hours(int shop, int v) {
        if (!named(shop, SHOPS)) return UNKNOWN;
        if (!within(v, 1, 24)) return OUTSIDE;
        return exchange(shops.hoursADay, shop, v);
    }

    public int offer(int shop, int part, int cost, int hours) {
        if (!named(shop, SHOPS) || !named(part, PARTS)) return UNKNOWN;
        if (!within(cost, 0, 999)) return OUTSIDE;
        if (cost != 0 && !within(hours, 1, 99)) return OUTSIDE;
        shops.work[shop][part] = cost == 0 ? 0 : hours;
        return exchange(shops.cost[shop], part, cost);
    }

    public int order(int part, int day) {
        if (!named(part, PARTS)) return UNKNOWN;
        if (!within(day, 1, 60)) return OUTSIDE;
        if (orders.n >= ORDERS) return FULL;
        return orders.add(part, day);
    }

    public int given(int but, int what) {
        if (but != NONE && !named(but, SHOPS)) return UNKNOWN;
        boolean asksShop = within(what, 10, 9 + ORDERS);
        boolean asksDay = within(what, 20, 19 + ORDERS);
        if (what != 0 && !asksShop && !asksDay) return OUTSIDE;
        if (orders.times >= TIMES_GIVEN) return STATE;
        orders.search(but, shops);
        if (asksShop) return orders.shopFor(what - 10);
        return asksDay ? orders.dayFor(what - 20, shops) : orders.least;
    }

    public int late(int shop, int days) {
        if (!named(shop, SHOPS)) return UNKNOWN;
        if (!within(days, 0, 30)) return OUTSIDE;
        if (shops.lateOnes[shop] >= LATE_ONES) return FULL;
        return shops.addLate(shop, days);
    }

    public int foretold(int shop, int share) {
        if (!named(shop, SHOPS)) return UNKNOWN;
        if (!within(share, 1, 100)) return OUTSIDE;
        return shops.daysFor(shop, share);
    }

    // ---- looks, drift

    public int look(int cost) {
        if (!within(cost, 1, 999)) return OUTSIDE;
        if (looks.n >= LOOKS) return FULL;
        return looks.add(cost);
    }

    public int finds(int look, int fault, int v) {
        if (!named(look, looks.n) || !named(fault, FAULTS)) return UNKNOWN;
        if (!within(v, 0, 99)) return OUTSIDE;
        return exchange(looks.share[look], fault, v);
    }

    public int asked(int fault, int v) {
        if (!named(fault, FAULTS)) return UNKNOWN;
        if (!within(v, 0, 99)) return OUTSIDE;
        return exchange(looks.wanted, fault, v);
    }

    public int enough(int what) {
        if (!named(what, 2)) return OUTSIDE;
        int set = looks.cheapestSet();
        return what == 0 || set == NONE ? set : looks.costOf(set);
    }

    public int made(int v) {
        if (!within(v, 0, 99)) return OUTSIDE;
        if (row.n >= ROW) return FULL;
        return row.add(v);
    }

    public int unmade() {
        int was = row.n;
        row.n = 0;
        return was;
    }

    public int drift(int k, int what) {
        if (!within(k, 1, row.n - 1) || !named(what, 2)) return OUTSIDE;
        return row.waysToChoose(k, what == 0);
    }

    // ---- what is told

    public int count(int what) {
        switch (what) {
            case 0: return chains.n;
            case 1: return things.n;
            case 2: return orders.n;
            case 3: return looks.n;
            case 4: return row.n;
            case 5: return page.n;
            case 6: return gradeSearch.times;
            case 7: return orders.times;
            case 8: return machines.looseOf(things.n);
            case 9: return things.allMeasures;
            default: return OUTSIDE;
        }
    }

    public long digest() {
        long h = drawing.fold(283);
        h = chains.fold(h, drawing);
        h = things.fold(h);
        h = machines.fold(h);
        h = shops.fold(h);
        h = orders.fold(h);
        h = looks.fold(h);
        h = row.fold(h);
        h = page.fold(h);
        for (int what = 0; what <= 9; what++) h = folded(h, count(what));
        return h;
    }

    // ---- small tools

    /** Whether a number is one of those from 0 to many less 1. */
    private static boolean named(int number, int many) {
        return number >= 0 && number < many;
    }

    private static boolean within(int v, int least, int greatest) {
        return v >= least && v <= greatest;
    }

    /** Puts v in its place and answers what was there. */
    private static int exchange(int[] row, int place, int v) {
        if (!named(place, row.length)) return NONE;
        int was = row[place];
        row[place] = v;
        return was;
    }

    private static long folded(long h, long number) {
        return 31 * h + number;
    }

    private static long foldedRow(long h, int[] row, int many) {
        long all = h;
        for (int i = 0; i < many && i < row.length; i++) all = folded(all, row[i]);
        return all;
    }

    /** How many letters w brings; NONE: some byte of it may not be there. */
    private static int lettersIn(long w) {
        int many = 0;
        for (int i = 0; i < 8; i++) {
            int letter = (int) (w >>> 8 * i & 255);
            if (letter == 0) continue;
            if (letter > 126 || many < i) return NONE;
            many++;
        }
        return many;
    }

    /** PARTS and GRADES as they are drawn, and what was counted of PARTS. */
    private static final class Drawing {
        private static final int TURNED = 1, CUT = 2, CAST = 3, BOUGHT = 4, JOINED = 5, MENDED = 6;

        private final int[] kind = new int[PARTS];
        private final int[] name = new int[PARTS];
        private final int[] grade = new int[PARTS];
        private final int[][] off = new int[PARTS][2 * FARTHEST_OFF + 1];
        private final int[] span = {8, 4, 2, 1};
        private final int[] rate = {1, 2, 4, 8};

        Drawing() {
            Arrays.fill(name, 100);
        }

        int[] rowOf(int what) {
            if (what == 0) return kind;
            return what == 1 ? name : grade;
        }

        int greatestOf(int what) {
            if (what == 0) return KINDS - 1;
            return what == 1 ? 999 : GRADES - 1;
        }

        boolean isOfKind(int part, int asked) {
            int own = kind[part];
            return asked == 0 || asked == own || asked == TURNED && own == MENDED;
        }

        int sizeOf(int part) {
            int plain = name[part];
            switch (kind[part]) {
                case TURNED: return turnedSize(plain);
                case CAST: return plain - plain / 50;
                case JOINED: return plain + 2;
                case MENDED: return turnedSize(plain) + 1;
                default: return plain;
            }
        }

        int priceOf(int part, int inGrade) {
            int plain = rate[inGrade];
            switch (kind[part]) {
                case TURNED: return turnedPrice(plain);
                case CUT: return plain + 3;
                case CAST: return 3 * plain;
                case BOUGHT: return plain / 2;
                case JOINED: return plain + 10;
                case MENDED: return turnedPrice(plain) + 1;
                default: return plain;
            }
        }

        private static int turnedSize(int plain) {
            return plain - 1;
        }

        private static int turnedPrice(int plain) {
            return 2 * plain;
        }

        /** How many of a PART were off by d; where none was counted, one that is off by 0 stands in. */
        int offBy(int part, int d) {
            int counted = off[part][d + FARTHEST_OFF];
            return d == 0 && noneCounted(part) ? 1 : counted;
        }

        private boolean noneCounted(int part) {
            for (int counted : off[part]) {
                if (counted != 0) return false;
            }
            return true;
        }

        long fold(long from) {
            long h = from;
            for (int i = 0; i < PARTS; i++) {
                h = folded(folded(folded(h, kind[i]), name[i]), grade[i]);
                h = foldedRow(folded(h, sizeOf(i)), off[i], off[i].length);
            }
            for (int i = 0; i < GRADES; i++) h = folded(folded(h, span[i]), rate[i]);
            return h;
        }
    }

    /** THE PAGE, and what reading it as a CHAIN found. */
    private static final class Page {
        private final int[] letter = new int[LETTERS];
        private int n;

        // what the last read() found
        private final int[] sign = new int[TERMS];
        private final int[] part = new int[TERMS];
        private int terms;
        private int least;
        private int greatest;
        private int at;
        private boolean whole;
        private int number;

        void write(int code) {
            if (n < LETTERS) letter[n++] = code;
        }

        /** Reads as far as a CHAIN can go; at is then the first place that fits none. */
        void read() {
            at = 0;
            terms = 0;
            whole = false;
            for (int i = 0; i < TERMS && nextIsSign(); i++) {
                if (!readTerm()) return;
            }
            if (terms == 0 || !readLetter('=') || !readNumber()) return;
            least = number;
            if (!readLetter('~') || !readNumber()) return;
            greatest = number;
            whole = at == n;
        }

        private boolean nextIs(int from, int to) {
            return at < n && at < LETTERS && within(letter[at], from, to);
        }

        private boolean nextIsSign() {
            return nextIs('+', '+') || nextIs('-', '-');
        }

        private boolean readLetter(int code) {
            if (!nextIs(code, code)) return false;
            at++;
            return true;
        }

        private boolean readTerm() {
            int signed = nextIs('-', '-') ? -1 : 1;
            at++;
            if (!nextIs('a', 'h') || terms >= TERMS) return false;
            sign[terms] = signed;
            part[terms] = letter[at] - 'a';
            terms++;
            at++;
            return true;
        }

        private boolean readNumber() {
            boolean below = readLetter('-');
            int digits = 0;
            int value = 0;
            for (; digits < 4 && nextIs('0', '9'); digits++) {
                value = 10 * value + letter[at] - '0';
                at++;
            }
            number = below ? -value : value;
            return digits > 0;
        }

        long fold(long h) {
            return foldedRow(h, letter, n);
        }
    }

    /** CHAINS, their sums and their ODDS. */
    private static final class Chains {
        /** As far as the TERMS of one CHAIN together can be off. */
        private static final int REACH = TERMS * FARTHEST_OFF;

        private int n;
        private final int[] terms = new int[CHAINS];
        private final int[] least = new int[CHAINS];
        private final int[] greatest = new int[CHAINS];
        private final int[][] sign = new int[CHAINS][TERMS];
        private final int[][] part = new int[CHAINS][TERMS];
        private final long[] ways = new long[2 * REACH + 1];
        private final long[] next = new long[2 * REACH + 1];

        void add(Page page) {
            if (n >= CHAINS) return;
            terms[n] = page.terms;
            least[n] = page.least;
            greatest[n] = page.greatest;
            System.arraycopy(page.sign, 0, sign[n], 0, TERMS);
            System.arraycopy(page.part, 0, part[n], 0, TERMS);
            n++;
        }

        int about(int chain, int what, Drawing drawing) {
            int gap = gapOf(chain, drawing);
            int spans = spansOf(chain, drawing);
            switch (what) {
                case 0: return terms[chain];
                case 1: return least[chain];
                case 2: return greatest[chain];
                case 3: return gap;
                case 4: return gap - spans;
                case 5: return gap + spans;
                default: return spans <= roomOf(chain, drawing) ? 1 : 0;
            }
        }

        private int gapOf(int chain, Drawing drawing) {
            int gap = 0;
            for (int i = 0; i < terms[chain]; i++) gap += sign[chain][i] * drawing.sizeOf(part[chain][i]);
            return gap;
        }

        private int spansOf(int chain, Drawing drawing) {
            int spans = 0;
            for (int i = 0; i < terms[chain]; i++) spans += drawing.span[drawing.grade[part[chain][i]]];
            return spans;
        }

        /** How much its SPANS together may be, so that the CHAIN HOLDS. */
        int roomOf(int chain, Drawing drawing) {
            int gap = gapOf(chain, drawing);
            return Math.min(gap - least[chain], greatest[chain] - gap);
        }

        int timesOf(int chain, int wanted) {
            int times = 0;
            for (int i = 0; i < terms[chain]; i++) {
                if (part[chain][i] == wanted) times++;
            }
            return times;
        }

        long oddsOf(int chain, int side, Drawing drawing) {
            spread(chain, drawing);
            int gap = gapOf(chain, drawing);
            long good = 0;
            long every = 0;
            for (int i = 0; i < ways.length; i++) {
                every += ways[i];
                if (within(gap + i - REACH, least[chain], greatest[chain])) good += ways[i];
            }
            long common = commonDivisor(every, good);
            if (common == 0) return NONE;
            return side == 0 ? good / common : every / common;
        }

        /** Counts the choices by what they are off together: there are far too many to go through. */
        private void spread(int chain, Drawing drawing) {
            Arrays.fill(ways, 0);
            ways[REACH] = 1;
            for (int i = 0; i < terms[chain]; i++) spreadTerm(sign[chain][i], part[chain][i], drawing);
        }

        private void spreadTerm(int signed, int of, Drawing drawing) {
            Arrays.fill(next, 0);
            for (int d = -FARTHEST_OFF; d <= FARTHEST_OFF; d++) {
                long counted = drawing.offBy(of, d);
                if (counted == 0) continue;
                int shift = signed * d;
                int from = Math.max(0, -shift);
                int to = Math.min(ways.length, ways.length - shift);
                for (int i = from; i < to; i++) next[i + shift] += counted * ways[i];
            }
            System.arraycopy(next, 0, ways, 0, ways.length);
        }

        /** A hundred steps are enough for any two longs. */
        private static long commonDivisor(long one, long other) {
            long a = one;
            long b = other;
            for (int i = 0; i < 100 && b != 0; i++) {
                long rest = a % b;
                a = b;
                b = rest;
            }
            return a;
        }

        long fold(long from, Drawing drawing) {
            long h = from;
            for (int i = 0; i < n; i++) {
                for (int what = 0; what <= 6; what++) h = folded(h, about(i, what, drawing));
            }
            return h;
        }
    }

    /** GIVEN OUT: goes through GRADES part by part, and turns back where it can get no better. */
    private static final class GradeSearch {
        private int times;
        private int least;
        private int n;
        private int nChains;
        private final int[] best = new int[PARTS_GIVEN_OUT];
        private final int[] chosen = new int[PARTS_GIVEN_OUT];
        private final int[] room = new int[CHAINS];
        private final int[][] often = new int[PARTS][CHAINS];
        /** SPANS in each CHAIN when so many PARTS have their GRADES. */
        private final int[][] used = new int[PARTS_GIVEN_OUT + 1][CHAINS];

        void search(int many, Drawing drawing, Chains chains) {
            times++;
            n = Math.min(many, PARTS_GIVEN_OUT);
            nChains = chains.n;
            least = NONE;
            for (int c = 0; c < nChains; c++) prepare(c, drawing, chains);
            choose(0, 0, drawing);
        }

        private void prepare(int c, Drawing drawing, Chains chains) {
            room[c] = chains.roomOf(c, drawing);
            used[0][c] = 0;
            for (int p = 0; p < PARTS; p++) {
                often[p][c] = chains.timesOf(c, p);
                if (p >= n) used[0][c] += often[p][c] * drawing.span[drawing.grade[p]];
            }
        }

        /** What is found first of like PRICES has the least GRADES, so only less is better. */
        private void choose(int depth, int price, Drawing drawing) {
            if (depth > n || !hasRoom(depth)) return;
            if (least != NONE && price >= least) return;
            if (depth == n) {
                least = price;
                System.arraycopy(chosen, 0, best, 0, n);
                return;
            }
            for (int g = 0; g < GRADES; g++) {
                chosen[depth] = g;
                for (int c = 0; c < nChains; c++) {
                    used[depth + 1][c] = used[depth][c] + often[depth][c] * drawing.span[g];
                }
                choose(depth + 1, price + drawing.priceOf(depth, g), drawing);
            }
        }

        private boolean hasRoom(int depth) {
            for (int c = 0; c < nChains; c++) {
                if (used[depth][c] > room[c]) return false;
            }
            return true;
        }

        int gradeFor(int part) {
            return least != NONE && named(part, n) ? best[part] : NONE;
        }
    }

    /** THINGS, their MEASURES and what is KNOWN of them. */
    private static final class Things {
        private static final int UNMEASURED = -1001, QUARREL = -1002;
        /** Further off than any MEASURE can tell. */
        private static final int BEYOND = 9999;

        private int n;
        private int allMeasures;
        private final int[] part = new int[THINGS];
        private final int[] lot = new int[THINGS];
        private final int[] measures = new int[THINGS];
        private final int[][] number = new int[THINGS][MEASURES];
        private final int[][] error = new int[THINGS][MEASURES];
        /** What is KNOWN, or in both why nothing is: kept, as it is asked far more often than it changes. */
        private final int[] low = new int[THINGS];
        private final int[] high = new int[THINGS];

        int add(int ofPart, int ofLot) {
            if (n >= THINGS) return FULL;
            part[n] = ofPart;
            lot[n] = ofLot;
            low[n] = UNMEASURED;
            high[n] = UNMEASURED;
            return n++;
        }

        boolean anyOfPart(int wanted) {
            for (int i = 0; i < n; i++) {
                if (part[i] == wanted) return true;
            }
            return false;
        }

        /** Nothing that is KNOWN is less than -99, so the marks can't be mistaken for it. */
        boolean isKnown(int thing) {
            return low[thing] > UNMEASURED;
        }

        int addMeasure(int thing, int v, int by) {
            int many = measures[thing];
            if (many >= MEASURES) return FULL;
            number[thing][many] = v;
            error[thing][many] = by;
            measures[thing] = many + 1;
            allMeasures++;
            settle(thing);
            return many + 1;
        }

        private void settle(int thing) {
            int which = believed(thing);
            low[thing] = which == 0 ? QUARREL : leastOf(thing, which);
            high[thing] = which == 0 ? QUARREL : greatestOf(thing, which);
        }

        /** The MEASURES, as bits, that are believed; 0: they QUARREL. */
        private int believed(int thing) {
            int every = (1 << measures[thing]) - 1;
            if (agree(thing, every)) return every;
            if (measures[thing] < 3) return 0;
            if (agree(thing, 0b011)) return 0b011;
            if (agree(thing, 0b101)) return 0b101;
            return agree(thing, 0b110) ? 0b110 : 0;
        }

        private boolean agree(int thing, int which) {
            return leastOf(thing, which) <= greatestOf(thing, which);
        }

        private int leastOf(int thing, int which) {
            int least = -BEYOND;
            for (int i = 0; i < MEASURES; i++) {
                if ((which >> i & 1) != 0) least = Math.max(least, number[thing][i] - error[thing][i]);
            }
            return least;
        }

        private int greatestOf(int thing, int which) {
            int greatest = BEYOND;
            for (int i = 0; i < MEASURES; i++) {
                if ((which >> i & 1) != 0) greatest = Math.min(greatest, number[thing][i] + error[thing][i]);
            }
            return greatest;
        }

        long fold(long from) {
            long h = from;
            for (int i = 0; i < n; i++) {
                h = folded(folded(h, part[i]), lot[i]);
                h = folded(folded(h, low[i]), high[i]);
            }
            return h;
        }
    }

    /** MOST PAIRS: first any most, then turned, THING by THING, into the one that is due. */
    private static final class Pairing {
        private int n;
        private int first;
        private final int[] partOf = new int[THINGS];
        /** Of each THING of p those of q, as bits, that FIT it. */
        private final int[] fits = new int[THINGS];
        private final int[] partner = new int[THINGS];
        private final int[] kept = new int[THINGS];
        private final int[] waiting = new int[THINGS];
        private final int[] reachedFrom = new int[THINGS];

        void begin(Things things, int p, int q, int least, int greatest) {
            n = things.n;
            first = p;
            Arrays.fill(partner, NONE);
            Arrays.fill(fits, 0);
            System.arraycopy(things.part, 0, partOf, 0, THINGS);
            for (int i = 0; i < n; i++) {
                if (partOf[i] != p || !things.isKnown(i)) continue;
                for (int j = 0; j < n; j++) {
                    if (partOf[j] != q || !things.isKnown(j)) continue;
                    if (things.low[i] - things.high[j] < least) continue;
                    if (things.high[i] - things.low[j] <= greatest) fits[i] |= 1 << j;
                }
            }
        }

        void pairMost() {
            for (int i = 0; i < THINGS; i++) {
                if (!pairOneMore(0)) break;
            }
            int settled = 0;
            for (int i = 0; i < n; i++) {
                if (partOf[i] == first) settled |= settle(i, settled);
            }
        }

        /** Gives i its least partner that leaves as many pairs; the bits of those that are settled by it. */
        private int settle(int i, int settled) {
            for (int j = 0; j < n; j++) {
                if ((fits[i] >> j & 1) == 0 || (settled >> j & 1) != 0) continue;
                if (partner[i] == j || force(i, j, settled)) return 1 << i | 1 << j;
            }
            return 1 << i;
        }

        /** Makes i and j a pair, if there are as many pairs then; else all stays as it was. */
        private boolean force(int i, int j, int settled) {
            int left = partner[i];
            int lost = partner[j];
            System.arraycopy(partner, 0, kept, 0, THINGS);
            if (named(left, THINGS)) partner[left] = NONE;
            if (named(lost, THINGS)) partner[lost] = NONE;
            partner[i] = j;
            partner[j] = i;
            if (left == NONE || lost == NONE) return true;
            if (pairOneMore(settled | 1 << i | 1 << j)) return true;
            System.arraycopy(kept, 0, partner, 0, THINGS);
            return false;
        }

        /** Makes one pair more, changing partners of THINGS that are not settled; false: it can't be. */
        private boolean pairOneMore(int settled) {
            int many = queueFree(settled);
            int seen = settled;
            for (int at = 0; at < many && at < THINGS; at++) {
                int i = waiting[at];
                int open = fits[i] & ~seen;
                for (int j = 0; j < n; j++) {
                    if ((open >> j & 1) == 0) continue;
                    reachedFrom[j] = i;
                    if (partner[j] == NONE) {
                        turnFrom(j);
                        return true;
                    }
                    if (many < THINGS) waiting[many++] = partner[j];
                }
                seen |= open;
            }
            return false;
        }

        /** Lets THINGS of p wait that have no partner and are not settled: how many. */
        private int queueFree(int settled) {
            int many = 0;
            for (int i = 0; i < n; i++) {
                boolean free = partOf[i] == first && partner[i] == NONE;
                if (free && (settled >> i & 1) == 0) waiting[many++] = i;
            }
            return many;
        }

        private void turnFrom(int end) {
            int j = end;
            for (int step = 0; step < THINGS && named(j, THINGS); step++) {
                int i = reachedFrom[j];
                int before = partner[i];
                partner[i] = j;
                partner[j] = i;
                j = before;
            }
        }

        int pairsMade() {
            int made = 0;
            for (int i = 0; i < n; i++) {
                if (partnerOf(i) != NONE) made++;
            }
            return made;
        }

        int partnerOf(int thing) {
            return named(thing, n) && partOf[thing] == first ? partner[thing] : NONE;
        }
    }

    /** MACHINES, what is in them, and what was told of them. */
    private static final class Machines {
        private static final int FAILED = 1, SOUND = 2;

        private final int[][] holds = new int[MACHINES][PARTS];
        private final int[] place = new int[THINGS];
        private final int[] toldAs = new int[MACHINES];
        private final int[] lots = new int[MACHINES];

        // what the last findSwap() found
        private int swapPart;
        private int swapOne;
        private int swapOther;

        Machines() {
            for (int[] row : holds) Arrays.fill(row, NONE);
            Arrays.fill(place, NONE);
        }

        int take(int machine, int thing, int part) {
            int from = place[thing];
            if (from == machine) return NONE;
            if (named(from, MACHINES)) holds[from][part] = NONE;
            int was = exchange(holds[machine], part, thing);
            if (named(was, THINGS)) place[was] = NONE;
            place[thing] = machine;
            return was;
        }

        int looseOf(int many) {
            int loose = 0;
            for (int i = 0; i < many && i < THINGS; i++) {
                if (place[i] == NONE) loose++;
            }
            return loose;
        }

        boolean fitsChain(int machine, int chain, Chains chains, Things things) {
            int low = 0;
            int high = 0;
            for (int i = 0; i < chains.terms[chain]; i++) {
                int thing = holds[machine][chains.part[chain][i]];
                if (!named(thing, things.n) || !things.isKnown(thing)) return false;
                boolean below = chains.sign[chain][i] < 0;
                low += below ? -things.high[thing] : things.low[thing];
                high += below ? -things.low[thing] : things.high[thing];
            }
            return low >= chains.least[chain] && high <= chains.greatest[chain];
        }

        private boolean isRight(int machine, Chains chains, Things things) {
            for (int c = 0; c < chains.n; c++) {
                if (!fitsChain(machine, c, chains, things)) return false;
            }
            return true;
        }

        int rightOnes(Chains chains, Things things) {
            int ones = 0;
            for (int m = 0; m < MACHINES; m++) {
                if (isRight(m, chains, things)) ones |= 1 << m;
            }
            return ones;
        }

        boolean findSwap(Chains chains, Things things) {
            int ones = rightOnes(chains, things);
            for (int p = 0; p < PARTS; p++) {
                for (int m = 0; m < MACHINES; m++) {
                    for (int o = m + 1; o < MACHINES; o++) {
                        boolean bothRight = (ones >> m & ones >> o & 1) != 0;
                        if (bothRight || !setsRight(p, m, o, chains, things)) continue;
                        swapPart = p;
                        swapOne = m;
                        swapOther = o;
                        return true;
                    }
                }
            }
            return false;
        }

        private boolean setsRight(int p, int m, int o, Chains chains, Things things) {
            if (holds[m][p] == NONE || holds[o][p] == NONE) return false;
            change(p, m, o);
            boolean right = isRight(m, chains, things) && isRight(o, chains, things);
            change(p, m, o);
            return right;
        }

        /** Only to try it: where the THINGS are said to be stays. */
        private void change(int p, int m, int o) {
            int kept = holds[m][p];
            holds[m][p] = holds[o][p];
            holds[o][p] = kept;
        }

        int lotsToBlame(Things things) {
            int soundLots = 0;
            for (int m = 0; m < MACHINES; m++) {
                lots[m] = lotsIn(m, things);
                if (toldAs[m] == SOUND) soundLots |= lots[m];
            }
            int best = NONE;
            for (int set = 0; set < 1 << LOTS; set++) {
                if ((set & soundLots) != 0 || !explains(set)) continue;
                if (best == NONE || Integer.bitCount(set) < Integer.bitCount(best)) best = set;
            }
            return best;
        }

        private boolean explains(int set) {
            for (int m = 0; m < MACHINES; m++) {
                if (toldAs[m] == FAILED && (set & lots[m]) == 0) return false;
            }
            return true;
        }

        private int lotsIn(int machine, Things things) {
            int found = 0;
            for (int thing : holds[machine]) {
                if (named(thing, things.n)) found |= 1 << things.lot[thing];
            }
            return found;
        }

        int withLots(int set, Things things) {
            int ones = 0;
            for (int m = 0; m < MACHINES; m++) {
                if ((lotsIn(m, things) & set) != 0) ones |= 1 << m;
            }
            return ones;
        }

        long fold(long from) {
            long h = from;
            for (int m = 0; m < MACHINES; m++) h = folded(foldedRow(h, holds[m], PARTS), toldAs[m]);
            return h;
        }
    }

    /** SHOPS: HOURS, OFFERS (a COST of 0: none) and the days they were LATE by. */
    private static final class Shops {
        private final int[] hoursADay = new int[SHOPS];
        private final int[][] cost = new int[SHOPS][PARTS];
        private final int[][] work = new int[SHOPS][PARTS];
        private final int[] lateOnes = new int[SHOPS];
        private final int[][] lateBy = new int[SHOPS][LATE_ONES];

        Shops() {
            Arrays.fill(hoursADay, 8);
        }

        int addLate(int shop, int days) {
            int many = lateOnes[shop];
            if (many >= LATE_ONES) return FULL;
            lateBy[shop][many] = days;
            lateOnes[shop] = many + 1;
            return many + 1;
        }

        int daysFor(int shop, int share) {
            int many = lateOnes[shop];
            int fewest = NONE;
            for (int i = 0; i < many; i++) {
                int days = lateBy[shop][i];
                boolean less = fewest == NONE || days < fewest;
                if (less && 100 * comeBy(shop, days) >= share * many) fewest = days;
            }
            return fewest;
        }

        private int comeBy(int shop, int days) {
            int come = 0;
            for (int i = 0; i < lateOnes[shop]; i++) {
                if (lateBy[shop][i] <= days) come++;
            }
            return come;
        }

        long fold(long from) {
            long h = from;
            for (int s = 0; s < SHOPS; s++) {
                h = folded(h, hoursADay[s]);
                for (int p = 0; p < PARTS; p++) h = folded(folded(h, cost[s][p]), work[s][p]);
                h = foldedRow(h, lateBy[s], lateOnes[s]);
            }
            return h;
        }
    }

    /** ORDERS, and GIVEN: goes through SHOPS order by order, and turns back where it can get no better. */
    private static final class Orders {
        private int n;
        private final int[] part = new int[ORDERS];
        private final int[] day = new int[ORDERS];
        /** Numbers of ORDERS as SHOPS make them: by DAY, then by number. */
        private final int[] turn = new int[ORDERS];

        private int times;
        private int least;
        private int but;
        private final int[] best = new int[ORDERS];
        private final int[] chosen = new int[ORDERS];

        int add(int ofPart, int byDay) {
            if (n >= ORDERS) return FULL;
            part[n] = ofPart;
            day[n] = byDay;
            int place = n;
            for (int i = n; i > 0 && day[turn[i - 1]] > byDay; i--) {
                turn[i] = turn[i - 1];
                place = i - 1;
            }
            turn[place] = n;
            return n++;
        }

        void search(int without, Shops shops) {
            times++;
            but = without;
            least = NONE;
            choose(0, 0, shops);
        }

        /** What is found first of like COSTS has the least SHOPS, so only less is better. */
        private void choose(int depth, int sum, Shops shops) {
            if (depth > n || least != NONE && sum >= least) return;
            if (depth == n) {
                least = sum;
                System.arraycopy(chosen, 0, best, 0, n);
                return;
            }
            for (int s = 0; s < SHOPS; s++) {
                int cost = shops.cost[s][part[depth]];
                if (s == but || cost == 0) continue;
                chosen[depth] = s;
                if (inTime(s, depth, shops)) choose(depth + 1, sum + cost, shops);
            }
        }

        /** Whether a SHOP is never late with what it has of ORDERS 0 to last: more can't make it sooner. */
        private boolean inTime(int shop, int last, Shops shops) {
            int hours = 0;
            for (int i = 0; i < n; i++) {
                int order = turn[i];
                if (order > last || chosen[order] != shop) continue;
                hours += shops.work[shop][part[order]];
                if (hours > day[order] * shops.hoursADay[shop]) return false;
            }
            return true;
        }

        int shopFor(int order) {
            return least != NONE && named(order, n) ? best[order] : NONE;
        }

        int dayFor(int order, Shops shops) {
            int shop = shopFor(order);
            if (!named(shop, SHOPS)) return NONE;
            int hours = 0;
            for (int i = 0; i < n; i++) {
                if (best[turn[i]] == shop) hours += shops.work[shop][part[turn[i]]];
                if (turn[i] == order) break;
            }
            return roundedUp(hours, shops.hoursADay[shop]);
        }

        private static int roundedUp(int hours, int aDay) {
            return aDay < 1 ? NONE : (hours + aDay - 1) / aDay;
        }

        long fold(long from) {
            long h = from;
            for (int i = 0; i < n; i++) h = folded(folded(h, part[i]), day[i]);
            return h;
        }
    }

    /** LOOKS, and what is ASKED of FAULTS. */
    private static final class Looks {
        private int n;
        private final int[] cost = new int[LOOKS];
        private final int[][] share = new int[LOOKS][FAULTS];
        private final int[] wanted = new int[FAULTS];

        int add(int ofCost) {
            if (n >= LOOKS) return FULL;
            cost[n] = ofCost;
            return n++;
        }

        int cheapestSet() {
            int best = NONE;
            for (int set = 0; set < 1 << n; set++) {
                if (findsAll(set) && (best == NONE || isBetter(set, best))) best = set;
            }
            return best;
        }

        private boolean isBetter(int set, int best) {
            int more = Integer.compare(costOf(set), costOf(best));
            return more < 0 || more == 0 && Integer.bitCount(set) < Integer.bitCount(best);
        }

        int costOf(int set) {
            int sum = 0;
            for (int i = 0; i < n; i++) {
                if ((set >> i & 1) != 0) sum += cost[i];
            }
            return sum;
        }

        private boolean findsAll(int set) {
            for (int f = 0; f < FAULTS; f++) {
                if (!findsAsAsked(set, f)) return false;
            }
            return true;
        }

        /** Compares what lacks to 1, both times 100 so often that they are whole numbers. */
        private boolean findsAsAsked(int set, int fault) {
            long lacks = 100;
            long mayLack = 100 - wanted[fault];
            for (int i = 0; i < n; i++) {
                if ((set >> i & 1) == 0) continue;
                lacks *= 100 - share[i][fault];
                mayLack *= 100;
            }
            return lacks <= mayLack;
        }

        long fold(long from) {
            long h = from;
            for (int i = 0; i < n; i++) h = foldedRow(folded(h, cost[i]), share[i], FAULTS);
            return foldedRow(h, wanted, FAULTS);
        }
    }

    /** The ROW of what a machine made. */
    private static final class Row {
        private int n;
        private final int[] value = new int[ROW];

        int add(int v) {
            if (n >= ROW) return FULL;
            value[n] = v;
            return ++n;
        }

        /** How many ways there are to choose k of all; if only the far ones, those off as much as the first k. */
        int waysToChoose(int k, boolean onlyFar) {
            int far = offDue((1 << k) - 1, k);
            int ways = 0;
            for (int set = 0; set < 1 << n; set++) {
                if (Integer.bitCount(set) != k) continue;
                if (!onlyFar || offDue(set, k) >= far) ways++;
            }
            return ways;
        }

        /** By how much a sum is off from what is due, n times, so that it is a whole number. */
        private int offDue(int set, int k) {
            int sum = 0;
            int every = 0;
            for (int i = 0; i < n; i++) {
                every += value[i];
                if ((set >> i & 1) != 0) sum += value[i];
            }
            return Math.abs(n * sum - k * every);
        }

        long fold(long h) {
            return foldedRow(h, value, n);
        }
    }
}
