import java.math.BigInteger;

/**
 * Promises 40 and 41, what the document says of all refusals and of 512 calls, each in a test of its own.
 * What stands behind the colon is the document's sentence; the rest of the promises is in ToldTest.
 */
public final class EdgesToldTest {
    private static final int U = SmallMakers.UNKNOWN, O = SmallMakers.OUTSIDE, S = SmallMakers.STATE, F = SmallMakers.FULL;
    private static final Due due = new Due();

    public static void main(String[] args) {
        count();
        digest();
        refusalsChangeNothing();
        answersChangeNothing();
        calls();
        due.end();
    }

    private static Run at(String sentence) {
        due.about(sentence);
        return new Run(due);
    }

    // ---- promise 40

    private static void count() {
        Run r = at("40: 0 CHAINS, .. 9 MEASURES .. OUTSIDE").beside("count(#)", 0, 9, O);
        for (int what = 0; what <= 9; what++) r.same("count(" + what + ")", 0);
        r = at("40: 0 CHAINS (none, one, 6, one refused)");
        for (int i = 0; i < 6; i++) r.is("count(0)", i).chain("+a=1~2", i);
        r.chain("+a=1~2", F).chain("+a=2~1", O).is("count(0)", 6);
        r = at("40: 1 THINGS, 8 THINGS that lie loose (none, one, 24, one refused)");
        for (int i = 0; i < 24; i++) r.is("count(1)", i).is("count(8)", i).thing(i, i % 8, 0);
        r.is("thing(0, 0)", F).is("count(1)", 24).is("count(8)", 24);
        for (int i = 0; i < 24; i++) r.is("put(" + i / 8 + ", " + i + ")", -1).is("count(8)", 23 - i).is("count(1)", 24);
        r.is("put(6, 0)", U).is("put(0, 24)", U).is("count(8)", 0);
        for (int i = 0; i < 16; i++) r.is("put(0, " + (8 + i) + ")", i).is("count(8)", i + 1);
        r = at("40: 2 ORDERS (none, one, 6, one refused)");
        for (int i = 0; i < 6; i++) r.is("count(2)", i).is("order(0, 1)", i);
        r.is("order(0, 1)", F).is("order(0, 0)", O).is("count(2)", 6);
        r = at("40: 3 LOOKS (none, one, 6, one refused)");
        for (int i = 0; i < 6; i++) r.is("count(3)", i).is("look(1)", i);
        r.is("look(1)", F).is("look(0)", O).is("count(3)", 6);
        countMore();
    }

    private static void countMore() {
        Run r = at("40: 4 of the ROW (none, one, 12, one refused, none again)");
        for (int i = 0; i < 12; i++) r.is("count(4)", i).is("made(9)", i + 1);
        r.is("made(9)", F).is("made(100)", O).is("count(4)", 12).is("unmade()", 12).is("count(4)", 0);
        r = at("40: 5 letters of THE PAGE (none, one, 40, one refused, none again)");
        for (int i = 0; i < 40; i++) r.is("count(5)", i).is("letters(43)", i + 1);
        r.is("letters(43)", F).is("letters(127)", O).is("count(5)", 40).is("blank()", 40).is("count(5)", 0);
        r = at("40: 6 how often giveOut() was done (never, once, 30 times, once refused)");
        for (int i = 0; i < 30; i++) r.is("count(6)", i).is("giveOut(1, 0)", 1);
        r.is("giveOut(1, 0)", S).is("giveOut(0, 0)", O).is("count(6)", 30).is("count(7)", 0);
        r = at("40: 7 given() was done (never, once, 40 times, once refused)");
        for (int i = 0; i < 40; i++) r.is("count(7)", i).is("given(-1, 0)", 0);
        r.is("given(-1, 0)", S).is("given(4, 0)", U).is("count(7)", 40).is("count(6)", 0);
        r = at("40: 9 MEASURES (none, one, 72, one refused)");
        for (int i = 0; i < 24; i++) r.thing(i, 0, 0);
        for (int i = 0; i < 72; i++) r.is("count(9)", i).is("measure(" + i % 24 + ", 5, 5)", i / 24 + 1);
        r.is("measure(0, 5, 5)", F).is("measure(0, 2000, 5)", O).is("measure(24, 5, 5)", U).is("count(9)", 72);
    }

    // ---- promise 41

    /** The numbers of a digest, told as it goes; BigInteger has no end, so that what wraps is cut off at the very last. */
    private static BigInteger h;

    private static void then(long... numbers) {
        for (long v : numbers) h = h.multiply(BigInteger.valueOf(31)).add(BigInteger.valueOf(v));
    }

    private static void times(int many, long... numbers) {
        for (int i = 0; i < many; i++) then(numbers);
    }

    private static void digest() {
        h = BigInteger.valueOf(283);
        times(8, 0, 100, 0, 100, 0, 0, 0, 0, 0, 0, 0, 0, 0);
        then(8, 1, 4, 2, 2, 4, 1, 8);
        times(6, -1, -1, -1, -1, -1, -1, -1, -1, 0);
        times(4, 8, 0, 0, 0, 0, 0, 0, 0, 0, 0, 0, 0, 0, 0, 0, 0, 0);
        times(4 + 10, 0);
        at("41: h is 283, then .. (as longs, wrapping) (a new object)").is("digest()", h.longValue()).is("digest()", h.longValue());
        Run r = at("41: of each .. (all there can be of each)");
        fullDrawing(r);
        fullThings(r);
        fullShops(r);
        fullLooks(r);
        h = BigInteger.valueOf(283);
        thenDrawing();
        thenThings();
        thenShops();
        thenLooks();
        then(6, 24, 6, 6, 12, 40, 1, 1, 24 - 15, 6 * (0 + 1 + 2 + 3) + 6);
        r.is("digest()", h.longValue()).is("digest()", h.longValue());
    }

    private static void fullDrawing(Run r) {
        for (int p = 0; p < 8; p++) {
            r.is("part(" + p + ", 0, " + p % 7 + ")", 0).is("part(" + p + ", 1, " + (999 - p) + ")", 100).is("part(" + p + ", 2, " + p % 4 + ")", 0);
            r.is("counted(" + p + ", -4, " + (99 - p) + ")", 0).is("counted(" + p + ", 4, " + (p + 1) + ")", 0);
            r.is("counted(" + p + ", " + (p % 7 - 3) + ", 50)", 0);
        }
        r.is("grade(0, 0, 99)", 8).is("grade(3, 0, 0)", 1).is("grade(0, 1, 0)", 1).is("grade(3, 1, 999)", 8);
        for (int c = 0; c < 6; c++) r.chain("+a-d=-999" + c + "~999" + c, c);
    }

    private static void thenDrawing() {
        int[] size = {999, 997, 997, 996 - 19, 995, 994 + 2, 993, 992};
        for (int p = 0; p < 8; p++) {
            long[] off = {99 - p, 0, 0, 0, 0, 0, 0, 0, p + 1};
            off[p % 7 + 1] = 50;
            then(p % 7, 999 - p, p % 4, size[p]);
            then(off);
        }
        then(99, 0, 4, 2, 2, 4, 0, 999);
        for (int c = 0; c < 6; c++) then(2, -9990 - c, 9990 + c, 999 - 977, 22 - 99, 22 + 99, 1);
    }

    /** THINGS with no MEASURE, one, two and three by turns, each third with one more that is far off; 15 of them in MACHINES. */
    private static void fullThings(Run r) {
        for (int i = 0; i < 24; i++) {
            r.thing(i, i % 8, i % 12);
            for (int k = 0; k < i % 4; k++) r.is("measure(" + i + ", " + (10 + 5 * k) + ", " + i + ")", k + 1);
        }
        for (int i = 0; i < 24; i += 3) r.is("measure(" + i + ", 1999, 99)", i % 4 == 3 ? F : i % 4 + 1);
        for (int i = 0; i < 15; i++) r.is("put(" + (5 - i / 3) + ", " + i + ")", -1);
        for (int m = 0; m < 6; m++) r.is("told(" + m + ", " + (2 - m % 3) + ")", 0);
    }

    private static void thenThings() {
        for (int i = 0; i < 24; i++) {
            then(i % 8, i % 12);
            thenKnown(i);
        }
        for (int m = 0; m < 6; m++) {
            long[] in = {-1, -1, -1, -1, -1, -1, -1, -1};
            for (int i = 0; i < 15; i++) {
                if (5 - i / 3 == m) in[i % 8] = i;
            }
            then(in);
            then(2 - m % 3);
        }
    }

    private static void thenKnown(int i) {
        boolean far = i % 3 == 0;
        if (i % 4 == 0) then(far ? 1900 : -1001, far ? 2098 : -1001);
        else if (i % 4 == 1) then(far ? -1002 : 10 - i, far ? -1002 : 10 + i);
        else if (i % 4 == 3) thenThree(i);
        else if (15 - i <= 10 + i) then(15 - i, 10 + i);
        else then(-1002, -1002);
    }

    /** Of 10, 15 and 20, each off by i: all three, or, where these are too far apart, the first two. */
    private static void thenThree(int i) {
        if (20 - i <= 10 + i) then(20 - i, 10 + i);
        else if (15 - i <= 10 + i) then(15 - i, 10 + i);
        else then(-1002, -1002);
    }

    private static void fullShops(Run r) {
        for (int s = 0; s < 4; s++) {
            r.is("hours(" + s + ", " + (24 - s) + ")", 8);
            for (int p = s; p < 8; p += 2) r.is("offer(" + s + ", " + p + ", " + (999 - p) + ", " + (99 - s) + ")", 0);
            for (int i = 0; i < 16; i += s + 1) r.is("late(" + s + ", " + (30 - i) + ")", i / (s + 1) + 1);
        }
        for (int i = 0; i < 6; i++) r.is("order(" + (7 - i) + ", " + (60 - 9 * i) + ")", i);
    }

    private static void thenShops() {
        for (int s = 0; s < 4; s++) {
            then(24 - s);
            for (int p = 0; p < 8; p++) {
                boolean offers = p >= s && (p - s) % 2 == 0;
                then(offers ? 999 - p : 0, offers ? 99 - s : 0);
            }
            for (int i = 0; i < 16; i += s + 1) then(30 - i);
        }
        for (int i = 0; i < 6; i++) then(7 - i, 60 - 9 * i);
    }

    private static void fullLooks(Run r) {
        for (int l = 0; l < 6; l++) {
            r.is("look(" + (999 - l) + ")", l).is("finds(" + l + ", " + l % 4 + ", " + (99 - l) + ")", 0);
        }
        for (int f = 0; f < 4; f++) r.is("asked(" + f + ", " + (99 - f) + ")", 0);
        for (int i = 1; i <= 12; i++) r.is("made(" + (9 * i - 9) + ")", i);
        r.writes("~}|{zyxwvutsrqponmlkjihgfedcba`_^]\\[ZYXW", 40).is("giveOut(1, 10)", 0).is("given(-1, 15)", 0);
    }

    private static void thenLooks() {
        for (int l = 0; l < 6; l++) {
            then(999 - l);
            for (int f = 0; f < 4; f++) then(l % 4 == f ? 99 - l : 0);
        }
        then(99, 98, 97, 96);
        for (int i = 0; i < 12; i++) then(9 * i);
        for (int c = 126; c > 86; c--) then(c);
    }

    // ---- all refusals

    /** What a filled object (Run.filled) refuses, by each refusal of each promise. */
    private static final Object[][] REFUSED = {
        {U, "part(8, 1, 5)", "part(-1, 0, 0)", "part(0, 3, 0)", "part(0, -1, 0)", "as(8, 0)", "size(8)", "size(-1)", "grade(4, 0, 5)",
            "grade(0, 2, 5)", "price(8, 0)", "price(0, 4)", "counted(8, 0, 5)", "counted(0, 5, 5)", "counted(0, -5, 5)"},
        {O, "part(0, 0, 7)", "part(0, 1, 1000)", "part(0, 2, 4)", "part(0, 2, -1)", "as(0, 7)", "grade(0, 0, 100)", "grade(0, 1, 1000)",
            "counted(0, 0, 100)", "counted(0, 0, -1)", "giveOut(0, 0)", "giveOut(7, 0)", "giveOut(1, 11)", "letters(127)", "letters(8454187)",
            "letters(16711723)", "letters(" + Long.MIN_VALUE + ")"},
        {S, "part(1, 0, 0)", "part(2, 0, 5)", "chain()"},
        {-100001, "of(1, 0)", "of(-1, 0)"},
        {-100002, "of(0, 7)", "of(0, -1)"},
        {-1, "odds(1, 0)", "odds(0, 2)", "odds(-1, 0)", "odds(0, -1)"},
        {U, "thing(8, 0)", "thing(-1, 0)", "measure(3, 5, 5)", "measure(-1, 5, 5)", "known(3, 0)", "pairs(8, 0, 0, 0, 0)", "pairs(0, 8, 0, 0, 0)",
            "pairs(1, 1, 0, 0, 0)", "put(6, 0)", "put(0, 3)", "put(-1, 1)", "put(0, -1)", "in(6, 0)", "in(0, 8)", "right(6, 0)", "right(0, 1)",
            "told(6, 0)", "told(-1, 1)"},
        {O, "thing(0, 12)", "thing(0, -1)", "measure(1, 2000, 5)", "measure(1, -1, 5)", "measure(1, 5, 100)", "measure(1, 5, -1)", "known(0, 2)",
            "pairs(1, 2, -10000, 0, 0)", "pairs(1, 2, 0, 10000, 0)", "pairs(1, 2, 1, 0, 0)", "pairs(1, 2, 0, 0, 9)", "pairs(1, 2, 0, 0, 34)",
            "swap(3)", "swap(-1)", "told(0, 3)", "told(3, -1)"},
        {U, "hours(4, 5)", "hours(-1, 5)", "offer(4, 6, 5, 5)", "offer(1, 8, 5, 5)", "offer(-1, 6, 0, 0)", "order(8, 5)", "order(-1, 5)",
            "given(4, 0)", "given(-2, 0)", "late(4, 5)", "late(-1, 5)", "foretold(4, 5)", "finds(2, 0, 5)", "finds(0, 4, 5)", "finds(-1, 0, 5)",
            "finds(0, -1, 5)", "asked(4, 5)", "asked(-1, 5)"},
        {O, "hours(1, 0)", "hours(1, 25)", "offer(1, 6, -1, 5)", "offer(1, 6, 1000, 5)", "offer(1, 6, 5, 0)", "offer(1, 6, 5, 100)", "order(0, 0)",
            "order(0, 61)", "given(-1, 9)", "given(-1, 26)", "late(1, -1)", "late(1, 31)", "foretold(1, 0)", "foretold(1, 101)", "look(0)",
            "look(1000)", "finds(1, 2, -1)", "finds(1, 2, 100)", "asked(3, -1)", "asked(3, 100)", "enough(2)", "enough(-1)", "made(-1)",
            "made(100)", "drift(0, 0)", "drift(3, 0)", "drift(1, 2)", "count(10)", "count(-1)"}};

    private static void refusalsChangeNothing() {
        for (Object[] row : REFUSED) {
            for (int i = 1; i < row.length; i++) {
                at("all: Refusals .. change nothing").filled().refused((String) row[i], (Integer) row[0]);
            }
        }
        Run r = at("all: Refusals .. change nothing (FULL, STATE)").chain("+a=1~2", 0).writes("+".repeat(40), 40);
        for (int i = 0; i < 30; i++) r.is("giveOut(1, 0)", -1);
        for (int i = 0; i < 40; i++) r.is("given(-1, 0)", 0);
        for (int i = 0; i < 24; i++) r.thing(i, 0, 0, 5, 0, 5, 0, 5, 0);
        for (int i = 0; i < 6; i++) r.is("order(0, 1)", i).is("look(1)", i);
        for (int i = 1; i <= 12; i++) r.is("made(1)", i);
        for (int i = 1; i <= 16; i++) r.is("late(3, 1)", i);
        for (String call : new String[] {"letters(43)", Run.letters("+a-b+c"), "thing(0, 0)", "measure(0, 1, 1)", "measure(23, 1, 1)",
            "order(1, 60)", "late(3, 0)", "look(999)", "made(99)"}) r.refused(call, F);
        for (String call : new String[] {"giveOut(6, 15)", "given(3, 25)", "part(0, 0, 0)", "chain()"}) r.refused(call, S);
    }

    private static void answersChangeNothing() {
        Run r = at("all: what only tells changes nothing").filled();
        r.same("as(1, 1)", 1).same("as(1, 6)", -1).same("size(1)", 139).same("price(1, 2)", 88).same("fault()", 5).same("of(0, 3)", 39);
        r.same("odds(0, 0)", 1).same("odds(0, 1)", 1).same("known(0, 0)", 138).same("known(1, 0)", -1001).same("known(2, 1)", -1002);
        r.same("pairs(1, 2, -99, 99, 0)", 0).same("pairs(1, 2, -99, 99, 10)", -1).same("in(3, 1)", 0).same("in(3, 2)", -1).same("right(3, 0)", 0);
        r.same("all()", 0).same("swap(0)", -1).same("blamed()", 16).same("called()", 8).same("foretold(1, 50)", 4).same("foretold(0, 50)", -1);
        r.same("enough(0)", -1).same("drift(1, 0)", 2).same("drift(2, 1)", 3).same("count(5)", 5).same("letters(0)", 5).same("put(3, 0)", -1);
    }

    // ---- 512 calls

    private static void calls() {
        Run r = at("all: An object is used for at most 512 calls after it has been made (the last answers as due)");
        for (int i = 0; i < 508; i++) r.is("part(" + i % 8 + ", 1, " + i + ")", i < 8 ? 100 : i - 8);
        r.is("size(3)", 507).is("size(4)", 500).is("count(0)", 0);
        h = BigInteger.valueOf(283);
        for (int p = 0; p < 8; p++) then(0, p < 4 ? 504 + p : 496 + p, 0, p < 4 ? 504 + p : 496 + p, 0, 0, 0, 0, 0, 0, 0, 0, 0);
        then(8, 1, 4, 2, 2, 4, 1, 8);
        times(6, -1, -1, -1, -1, -1, -1, -1, -1, 0);
        times(4, 8, 0, 0, 0, 0, 0, 0, 0, 0, 0, 0, 0, 0, 0, 0, 0, 0);
        times(4 + 10, 0);
        r.is("digest()", h.longValue());
        due.is(512, r.made(), "calls");
    }
}
