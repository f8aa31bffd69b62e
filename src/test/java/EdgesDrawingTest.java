/**
 * Promises 1 to 14, each sentence of the document that names a boundary case in a test of its own.
 * What stands behind the colon is the document's sentence; the rest of the promise is in DrawingTest.
 */
public final class EdgesDrawingTest {
    private static final int U = SmallMakers.UNKNOWN, O = SmallMakers.OUTSIDE, S = SmallMakers.STATE, F = SmallMakers.FULL;
    private static final Due due = new Due();

    public static void main(String[] args) {
        newObject();
        part();
        as();
        size();
        grade();
        price();
        counted();
        letters();
        blank();
        fault();
        chain();
        of();
        odds();
        giveOut();
        due.end();
    }

    private static Run at(String sentence) {
        due.about(sentence);
        return new Run(due);
    }

    // ---- promise 1

    private static void newObject() {
        firstParts();
        firstGrades();
        firstCounted();
        firstEmpty();
        firstMachines();
        firstShops();
        firstLooks();
        nothingShared();
    }

    private static void firstParts() {
        Run r = at("1: KIND (.. 0 at first), NAME (.. 100 at first), GRADE (.. 0 at first)");
        for (int p = 0; p < 8; p++) {
            r.same("part(" + p + ", 0, 0)", 0).same("part(" + p + ", 1, 100)", 100).same("part(" + p + ", 2, 0)", 0);
        }
    }

    private static void firstGrades() {
        Run r = at("1: SPAN (.. 8, 4, 2, 1 at first) and a RATE (.. 1, 2, 4, 8 at first)");
        int[] span = {8, 4, 2, 1}, rate = {1, 2, 4, 8};
        for (int g = 0; g < 4; g++) {
            r.same("grade(" + g + ", 0, " + span[g] + ")", span[g]).same("grade(" + g + ", 1, " + rate[g] + ")", rate[g]);
        }
    }

    private static void firstCounted() {
        Run r = at("1: how many were off by -4 to 4 (.. 0 at first)");
        for (int p = 0; p < 8; p++) {
            for (int d = -4; d <= 4; d++) r.same("counted(" + p + ", " + d + ", 0)", 0);
        }
    }

    private static void firstEmpty() {
        Run r = at("1: As told at first: nothing is there that is numbered or told");
        for (int what = 0; what <= 9; what++) r.is("count(" + what + ")", 0);
        r.same("fault()", 0).same("blank()", 0).refused("chain()", S).refused("of(0, 0)", -100001).refused("odds(0, 0)", -1);
        r.refused("known(0, 0)", U).refused("measure(0, 0, 0)", U).refused("put(0, 0)", U).refused("right(0, 0)", U);
        r.refused("finds(0, 0, 0)", U).refused("drift(1, 0)", O).same("unmade()", 0);
    }

    private static void firstMachines() {
        Run r = at("1: MACHINES 0 to 5 have none, and are told as neither");
        for (int m = 0; m < 6; m++) {
            for (int p = 0; p < 8; p++) r.is("in(" + m + ", " + p + ")", -1);
            r.same("told(" + m + ", 0)", 0);
        }
    }

    private static void firstShops() {
        Run r = at("1: HOURS a day (.. 8 at first), no OFFERS, no LATE ones");
        for (int s = 0; s < 4; s++) {
            r.same("hours(" + s + ", 8)", 8).same("foretold(" + s + ", 1)", -1);
            for (int p = 0; p < 8; p++) r.same("offer(" + s + ", " + p + ", 0, 0)", 0);
        }
    }

    private static void firstLooks() {
        Run r = at("1: by how many hundredths it FINDS it (.. 0 at first). ASKED of a FAULT (.. 0 at first)");
        for (int l = 0; l < 6; l++) {
            r.is("look(" + (l + 1) + ")", l);
            for (int f = 0; f < 4; f++) r.same("finds(" + l + ", " + f + ", 0)", 0);
        }
        for (int f = 0; f < 4; f++) r.same("asked(" + f + ", 0)", 0);
    }

    private static void nothingShared() {
        Run first = at("1: SmallMakers(): As told at first, whatever was done with another one");
        long empty = first.call("digest()");
        Run filled = new Run(due).filled();
        first.is("digest()", empty);
        new Run(due).is("digest()", empty);
        due.about("1: SmallMakers(): nothing that is done with one changes another one");
        long full = filled.call("digest()");
        otherwiseFilled(new Run(due));
        filled.is("digest()", full).is("in(3, 1)", 0).is("count(8)", 2).is("known(0, 0)", 138).is("of(0, 3)", 39).is("blamed()", 16);
        filled.is("given(0, 0)", -1).is("foretold(1, 100)", 9).is("drift(1, 0)", 2).is("enough(0)", -1).is("fault()", 5).is("blank()", 5);
        otherwiseFilled(first);
        Run last = new Run(due).is("digest()", empty);
        otherwiseFilled(last);
        due.is(first.call("digest()"), last.call("digest()"), "digest() of two with the same calls");
    }

    /** In each place where Run.filled has something, something else. */
    private static void otherwiseFilled(Run r) {
        r.chain("-h+g-f=-150~0", 0).writes("-xyz~{}", 7).is("part(1, 0, 5)", 0).is("part(1, 1, 7)", 100).is("part(1, 2, 3)", 0);
        r.is("counted(1, -4, 9)", 0).is("counted(1, 3, 8)", 0).is("grade(2, 0, 77)", 2).is("grade(2, 1, 7)", 4);
        r.thing(0, 4, 9, 20, 1, 90, 1).thing(1, 4, 8, 5, 0).thing(2, 4, 7).is("put(3, 1)", -1).is("put(0, 2)", -1).is("told(3, 2)", 0);
        r.is("told(5, 1)", 0).is("hours(1, 2)", 8).is("offer(1, 6, 99, 9)", 0).is("offer(0, 0, 1, 1)", 0).is("late(1, 29)", 1).is("late(1, 28)", 2);
        r.is("order(1, 50)", 0).is("order(3, 51)", 1).is("look(900)", 0).is("look(901)", 1).is("finds(1, 2, 11)", 0).is("finds(0, 3, 99)", 0);
        r.is("asked(3, 99)", 0).is("made(90)", 1).is("made(91)", 2).is("made(0)", 3).is("giveOut(1, 0)", 1).is("given(-1, 0)", -1);
    }

    // ---- promise 2

    private static void part() {
        Run r = at("2: PARTS a to h (0 to 7)");
        r.is("part(0, 1, 5)", 100).is("part(7, 1, 6)", 100).is("part(0, 1, 5)", 5).is("part(7, 1, 6)", 6);
        for (int what = 0; what < 3; what++) r.beside("part(#, " + what + ", 1)", 0, 7, U);
        r = at("2: KIND (what = 0), NAME (1), GRADE (2)");
        r.is("part(3, 0, 4)", 0).is("part(3, 1, 5)", 100).is("part(3, 2, 3)", 0);
        r.is("part(3, 0, 4)", 4).is("part(3, 1, 5)", 5).is("part(3, 2, 3)", 3);
        r.beside("part(3, #, 1)", 0, 2, U);
        r = at("2: KIND (0 PART, .. 6 MENDED)");
        r.is("part(2, 0, 6)", 0).is("part(2, 0, 0)", 6).beside("part(2, 0, #)", 0, 6, O).is("part(2, 0, 0)", 0);
        r = at("2: NAME (0 to 999");
        r.is("part(2, 1, 999)", 100).is("part(2, 1, 0)", 999).beside("part(2, 1, #)", 0, 999, O).is("part(2, 1, 0)", 0);
        r = at("2: GRADE (0 to 3");
        r.is("part(2, 2, 3)", 0).is("part(2, 2, 0)", 3).beside("part(2, 2, #)", 0, 3, O).is("part(2, 2, 0)", 0);
        partOfThings();
        partOrder();
    }

    private static void partOfThings() {
        Run r = at("2: STATE: KIND of a PART of which there are THINGS");
        r.is("part(5, 0, 2)", 0).thing(0, 5, 0);
        for (int kind = 0; kind <= 6; kind++) r.refused("part(5, 0, " + kind + ")", S);
        r.is("as(5, 2)", 5).is("put(0, 0)", -1).refused("part(5, 0, 1)", S);
        r = at("2: STATE: KIND of a PART of which there are THINGS (not its NAME, not its GRADE)");
        r.thing(0, 5, 0).is("part(5, 1, 7)", 100).is("part(5, 2, 1)", 0).is("part(5, 1, 7)", 7).is("part(5, 2, 1)", 1);
        r = at("2: STATE: KIND of a PART of which there are THINGS (not of the PARTS beside it)");
        r.thing(0, 5, 0).is("part(4, 0, 1)", 0).is("part(6, 0, 1)", 0).is("part(0, 0, 1)", 0);
        r = at("2: STATE: KIND of a PART of which there are THINGS (the last of 24)");
        for (int i = 0; i < 24; i++) r.thing(i, i < 23 ? 0 : 7, 0);
        r.refused("part(7, 0, 1)", S).is("part(6, 0, 1)", 0);
    }

    private static void partOrder() {
        Run r = at("2: UNKNOWN: part, what; OUTSIDE; STATE .. of several the first as told");
        r.thing(0, 7, 0).thing(1, 0, 0);
        r.refused("part(8, 3, 1000)", U).refused("part(8, 0, 7)", U).refused("part(-1, 2, 4)", U);
        r.refused("part(0, 3, 1000)", U).refused("part(0, -1, -1)", U).refused("part(7, 3, 0)", U);
        r.refused("part(7, 0, 7)", O).refused("part(0, 0, -1)", O);
    }

    // ---- promise 3

    private static void as() {
        Run r = at("3: UNKNOWN (PARTS a to h, 0 to 7)");
        r.is("as(0, 0)", 0).is("as(7, 0)", 7).beside("as(#, 0)", 0, 7, U);
        r = at("3: OUTSIDE (KIND 0 to 6)");
        r.is("part(1, 0, 6)", 0).is("as(1, 0)", 1).is("as(1, 6)", 1).beside("as(1, #)", 0, 6, O);
        r = at("3: UNKNOWN; OUTSIDE .. of several the first as told");
        r.refused("as(8, 7)", U).refused("as(-1, -1)", U);
        r = at("3: All are PARTS");
        for (int kind = 0; kind <= 6; kind++) r.is("part(4, 0, " + kind + ")", Math.max(0, kind - 1)).same("as(4, 0)", 4);
        r = at("3: MENDED are TURNED, too");
        r.is("part(4, 0, 6)", 0).same("as(4, 1)", 4).same("as(4, 6)", 4);
        r = at("3: MENDED are TURNED, too (and TURNED are not MENDED)");
        r.is("part(4, 0, 1)", 0).same("as(4, 6)", -1).same("as(4, 1)", 4);
        r = at("3: NONE: it is none such (the cast fails)");
        for (int own = 0; own <= 6; own++) {
            r.call("part(4, 0, " + own + ")");
            for (int kind = 1; kind <= 6; kind++) {
                if (kind != own && (own != 6 || kind != 1)) r.is("as(4, " + kind + ")", -1);
            }
        }
    }

    // ---- promise 4

    private static void size() {
        Run r = at("4: UNKNOWN (PARTS a to h, 0 to 7)");
        r.is("part(0, 1, 11)", 100).is("part(7, 1, 18)", 100).same("size(0)", 11).same("size(7)", 18);
        r.beside("size(#)", 0, 7, U);
        at("4: CAST what a PART has less a fiftieth (rounded down) of it");
        sizes(3, 0, 0, 1, 1, 49, 49, 50, 49, 51, 50, 99, 98, 100, 98, 149, 147, 150, 147, 999, 980);
        at("4: TURNED what a PART has less 1 (of NAME 0, too)");
        sizes(1, 0, -1, 1, 0, 999, 998);
        at("4: MENDED what TURNED has and 1 (of NAME 0, too)");
        sizes(6, 0, 0, 1, 1, 999, 999);
        at("4: JOINED what a PART has and 2 (of NAME 999, too)");
        sizes(5, 0, 2, 999, 1001);
        at("4: a PART its NAME; CUT, BOUGHT what a PART has");
        for (int kind : new int[] {0, 2, 4}) sizes(kind, 0, 0, 999, 999);
    }

    private static void sizes(int kind, int... namesAndSizes) {
        Run r = new Run(due);
        r.call("part(6, 0, " + kind + ")");
        for (int i = 0; i < namesAndSizes.length; i += 2) {
            r.call("part(6, 1, " + namesAndSizes[i] + ")");
            r.is("size(6)", namesAndSizes[i + 1]);
        }
    }

    // ---- promise 5

    private static void grade() {
        Run r = at("5: UNKNOWN: grade (GRADE 0 to 3)");
        r.is("grade(0, 0, 50)", 8).is("grade(3, 0, 60)", 1).is("grade(0, 0, 50)", 50).is("grade(3, 0, 60)", 60);
        r.beside("grade(#, 0, 1)", 0, 3, U).beside("grade(#, 1, 1)", 0, 3, U);
        r = at("5: SPAN (what = 0), RATE (1) .. UNKNOWN: what");
        r.is("grade(2, 0, 20)", 2).is("grade(2, 1, 30)", 4).is("grade(2, 0, 20)", 20).is("grade(2, 1, 30)", 30);
        r.beside("grade(2, #, 1)", 0, 1, U);
        r = at("5: SPAN (0 to 99");
        r.is("grade(1, 0, 99)", 4).is("grade(1, 0, 0)", 99).beside("grade(1, 0, #)", 0, 99, O).is("grade(1, 0, 0)", 0);
        r = at("5: RATE (0 to 999");
        r.is("grade(1, 1, 999)", 2).is("grade(1, 1, 0)", 999).beside("grade(1, 1, #)", 0, 999, O).is("grade(1, 1, 0)", 0);
        r = at("5: UNKNOWN: grade, what; OUTSIDE .. of several the first as told");
        r.refused("grade(4, 2, -1)", U).refused("grade(4, 0, 100)", U).refused("grade(-1, 1, 1000)", U);
        r.refused("grade(0, 2, 1000)", U).refused("grade(0, -1, -1)", U);
    }

    // ---- promise 6

    private static void price() {
        Run r = at("6: UNKNOWN (PARTS a to h, 0 to 7)");
        r.is("part(7, 0, 5)", 0).same("price(0, 0)", 1).same("price(7, 0)", 11).beside("price(#, 0)", 0, 7, U);
        r = at("6: UNKNOWN (GRADE 0 to 3)");
        r.same("price(0, 0)", 1).same("price(0, 3)", 8).beside("price(0, #)", 0, 3, U).refused("price(8, 4)", U);
        at("6: BOUGHT half of a PART's (rounded down)");
        prices(4, 0, 0, 1, 0, 2, 1, 3, 1, 998, 499, 999, 499);
        at("6: of a PART its RATE (0 to 999)");
        prices(0, 0, 0, 999, 999);
        at("6: TURNED twice a PART's");
        prices(1, 0, 0, 999, 1998);
        at("6: CUT a PART's and 3");
        prices(2, 0, 3, 999, 1002);
        at("6: CAST thrice a PART's");
        prices(3, 0, 0, 999, 2997);
        at("6: JOINED a PART's and 10");
        prices(5, 0, 10, 999, 1009);
        at("6: MENDED what TURNED costs, and 1");
        prices(6, 0, 1, 999, 1999);
    }

    private static void prices(int kind, int... ratesAndPrices) {
        Run r = new Run(due);
        r.call("part(3, 0, " + kind + ")");
        for (int i = 0; i < ratesAndPrices.length; i += 2) {
            r.call("grade(2, 1, " + ratesAndPrices[i] + ")");
            r.is("price(3, 2)", ratesAndPrices[i + 1]);
        }
    }

    // ---- promise 7

    private static void counted() {
        Run r = at("7: UNKNOWN: part (PARTS a to h, 0 to 7)");
        r.is("counted(0, 4, 5)", 0).is("counted(7, -4, 6)", 0).is("counted(0, 4, 5)", 5).is("counted(7, -4, 6)", 6);
        r.is("counted(1, -4, 0)", 0).is("counted(6, 4, 0)", 0).beside("counted(#, 0, 1)", 0, 7, U);
        r = at("7: off by d (-4 to 4)");
        for (int d = -4; d <= 4; d++) r.is("counted(2, " + d + ", " + (20 + d) + ")", 0);
        for (int d = -4; d <= 4; d++) r.is("counted(2, " + d + ", " + (20 + d) + ")", 20 + d);
        r.beside("counted(2, #, 1)", -4, 4, U);
        r = at("7: how many were off by -4 to 4 (0 to 99 each");
        r.is("counted(2, -4, 99)", 0).is("counted(2, -4, 0)", 99).beside("counted(2, -4, #)", 0, 99, O);
        r.is("counted(2, 4, 99)", 0).is("counted(2, 4, 0)", 99).beside("counted(2, 4, #)", 0, 99, O);
        r = at("7: UNKNOWN: part, d; OUTSIDE .. of several the first as told");
        r.refused("counted(8, 5, 100)", U).refused("counted(-1, 0, -1)", U).refused("counted(8, 4, 100)", U);
        r.refused("counted(0, 5, 100)", U).refused("counted(0, -5, -1)", U);
    }

    // ---- promise 8

    private static void letters() {
        lettersOrder();
        lettersCodes();
        lettersBehindZero();
        lettersFull();
    }

    private static void lettersOrder() {
        Run r = at("8: up to eight, told by their codes in the bytes of w, the lowest byte first");
        r.is("letters(9093661814254559531)", 8).same("fault()", 8).is(Run.letters("3"), 9).is("chain()", 0);
        r = at("8: until a byte that is 0");
        r.is("letters(43)", 1).is("letters(97)", 2).is(Run.letters("=1~"), 5).is(Run.letters("22"), 7).is("chain()", 0);
        r.is("of(0, 2)", 22);
        r = at("8: until a byte that is 0 (the first: no letter comes)");
        r.same("letters(0)", 0).is("letters(43)", 1).same("letters(0)", 1);
        r = at("8: how many THE PAGE has");
        for (int n = 1; n <= 8; n++) new Run(due).is(Run.letters("abcdefgh".substring(0, n)), n);
    }

    private static void lettersCodes() {
        Run r = at("8: OUTSIDE: a byte above 126");
        r.is("letters(126)", 1).is("letters(1)", 2);
        for (int code : new int[] {127, 128, 129, 170, 254, 255}) r.refused("letters(" + code + ")", O);
        for (int place = 0; place < 8; place++) {
            at("8: OUTSIDE: a byte above 126 (byte " + place + ")");
            long fine = Due.packed("++++++++".substring(0, place)), top = 126L << 8 * place;
            new Run(due).is("letters(" + (fine | top) + ")", place + 1);
            r = new Run(due).writes("+a", 2);
            for (long code : new long[] {127, 128, 255}) r.refused("letters(" + (fine | code << 8 * place) + ")", O);
            r.is("count(5)", 2);
        }
        at("8: OUTSIDE: a byte above 126 (w as wide as can be)");
        new Run(due).refused("letters(-1)", O).refused("letters(" + Long.MIN_VALUE + ")", O)
            .refused("letters(" + Long.MAX_VALUE + ")", O).is("letters(9114861777597660798)", 8);
    }

    private static void lettersBehindZero() {
        for (int zero = 0; zero < 7; zero++) {
            Run r = at("8: OUTSIDE: one behind a 0 that is not 0 (a 0 in byte " + zero + ")").writes("+a", 2);
            long ahead = Due.packed("++++++++".substring(0, zero));
            for (int place = zero + 1; place < 8; place++) {
                for (long code : new long[] {1, 97, 126}) r.refused("letters(" + (ahead | code << 8 * place) + ")", O);
            }
            r.is("count(5)", 2).is("letters(" + ahead + ")", 2 + zero);
        }
    }

    private static void lettersFull() {
        Run r = at("8: FULL: above 40 (letters one by one)");
        for (int n = 1; n <= 40; n++) r.is("letters(43)", n);
        r.refused("letters(43)", F).same("letters(0)", 40).is("count(5)", 40);
        for (int n = 33; n <= 40; n++) {
            for (int more = 1; more <= 8; more++) {
                r = at("8: FULL: above 40 (" + more + " behind " + n + ")").writes("+".repeat(n), n);
                String call = Run.letters("abcdefgh".substring(0, more));
                if (n + more > 40) r.refused(call, F).is("count(5)", n);
                else r.is(call, n + more);
            }
        }
        r = at("8: OUTSIDE; FULL .. of several the first as told").writes("+".repeat(40), 40);
        r.refused("letters(127)", O).refused("letters(255)", O).refused("letters(-1)", O).refused("letters(256)", O);
        r.refused("letters(16711723)", O);
    }

    // ---- promise 9

    private static void blank() {
        Run r = at("9: THE PAGE is empty: how many letters it had (none)");
        r.same("blank()", 0);
        r = at("9: THE PAGE is empty: how many letters it had (one)");
        long empty = r.call("digest()");
        r.writes("+", 1).is("blank()", 1).is("digest()", empty).same("blank()", 0);
        r = at("9: THE PAGE is empty: how many letters it had (40, as many as can be)");
        r.writes("+".repeat(40), 40).is("blank()", 40).is("digest()", empty).is("fault()", 0).is("letters(43)", 1);
        r = at("9: THE PAGE is empty (what was on it is read no more)");
        r.writes("+a=1~2", 6).is("blank()", 6).refused("chain()", S).writes("-b=3~4", 6).is("chain()", 0).is("of(0, 1)", 3);
    }

    // ---- promise 10

    /** Behind each text: letters that a CHAIN may have there. All others are the first that none has. */
    private static void fault() {
        String digits = "0123456789", parts = "abcdefgh";
        goesOn("one to six TERMS (none yet)", "", "+-");
        goesOn("TERMS (\"+\" or \"-\", a letter a to h)", "+", parts);
        goesOn("TERMS (\"+\" or \"-\", a letter a to h)", "-", parts);
        goesOn("one to six TERMS (one)", "+a", "+-=");
        goesOn("one to six TERMS (two, without the second's letter)", "+a-", parts);
        goesOn("one to six TERMS (five)", "+a-b+c-d+e", "+-=");
        goesOn("one to six TERMS (the sixth's letter)", "+a-b+c-d+e-", parts);
        goesOn("one to six TERMS (six)", "+a-b+c-d+e-h", "=");
        goesOn("a NUMBER (.. perhaps \"-\", one to four digits)", "-h=", "-" + digits);
        goesOn("a NUMBER (.. perhaps \"-\": one)", "-h=-", digits);
        goesOn("a NUMBER (.. one to four digits: one)", "-h=0", "~" + digits);
        goesOn("a NUMBER (.. one to four digits: three)", "-h=000", "~" + digits);
        goesOn("a NUMBER (.. one to four digits: four)", "-h=0000", "~");
        goesOn("a NUMBER (.. \"-\", one)", "-h=-9", "~" + digits);
        goesOn("a NUMBER (.. \"-\", three)", "-h=-999", "~" + digits);
        goesOn("a NUMBER (.. \"-\", four)", "-h=-9999", "~");
        goesOn("\"~\", a NUMBER", "-h=1~", "-" + digits);
        goesOn("\"~\", a NUMBER (\"-\")", "-h=1~-", digits);
        goesOn("\"~\", a NUMBER (one digit)", "-h=1~1", digits);
        goesOn("\"~\", a NUMBER (three digits)", "-h=1~123", digits);
        goesOn("\"~\", a NUMBER (four digits: it is at its end)", "-h=1~1234", "");
        goesOn("\"~\", a NUMBER (\"-\", three digits)", "-h=1~-123", digits);
        goesOn("\"~\", a NUMBER (\"-\", four digits: it is at its end)", "-h=1~-1234", "");
        goesOn("the longest CHAIN", "+a-b+c-d+e-f=-1234~-1234", "");
        goesOn("(of any bounds): the least above the greatest", "+a=9999~-999", digits);
        faultPlaces();
    }

    private static void goesOn(String sentence, String text, String then) {
        due.about("10: " + sentence + " behind \"" + text + "\"");
        int n = text.length();
        for (int code = 1; code <= 126; code++) {
            Run r = new Run(due);
            if (n > 0) r.writes(text, n);
            r.is("fault()", n).is("letters(" + code + ")", n + 1).is("fault()", then.indexOf(code) >= 0 ? n + 1 : n);
        }
    }

    private static void faultPlaces() {
        Run r = at("10: how many letters it has, if there is none (none)").same("fault()", 0);
        r.writes("+a=9~1", 6).same("fault()", 6);
        r = at("10: The place (from 0) of the first letter (the first)").writes("x+a=1~2", 7).same("fault()", 0);
        r = at("10: The place .. of the first letter (not the last that is wrong)").writes("+a=1x~x2x", 9).same("fault()", 4);
        r = at("10: The place .. of the first letter (of 40, behind the longest CHAIN)");
        r.writes("+a-b+c-d+e-f=-1234~-1234+a-b+c-d+e-f=-12", 40).same("fault()", 24);
        r = at("10: The place .. of the first letter (of 40, all wrong)").writes("~".repeat(40), 40).same("fault()", 0);
        r = at("10: The place .. of the first letter (a seventh TERM)").writes("+a-b+c-d+e-f+g=1~2", 18).same("fault()", 12);
    }

    // ---- promise 11

    private static void chain() {
        chainState();
        chainOutside();
        chainFull();
        chainOrder();
        chainTerms();
        chainNumbers();
        Run r = at("11: THE PAGE is empty then").chain("+a=1~2", 0);
        r.is("count(5)", 0).is("fault()", 0).is("blank()", 0).refused("chain()", S).is("count(0)", 1);
    }

    private static void chainState() {
        Run r = at("11: STATE: it is none (an empty page)").refused("chain()", S);
        String whole = "-a+b-c+d-e+h=-1234~-5678";
        for (int n = 1; n <= 20; n++) {
            at("11: STATE: it is none (not at its end: " + whole.substring(0, n) + ")");
            new Run(due).writes(whole.substring(0, n), n).refused("chain()", S).is("count(5)", n).is("count(0)", 0);
        }
        for (String text : new String[] {"=1~2", "a=1~2", "+=1~2", "+a1~2", "+a=12", "+a=~2", "+a=1~", "+a=-~2", "+a=1~-", "+a==1~2",
            "+a=+1~2", "+a=1~+2", "+a=--1~2", "+i=1~2", "+`=1~2", "+A=1~2", " +a=1~2", "+a=1~2 ", "+a=1~2~", "+a=1~2+b", "+a=1-2", "+ab=1~2",
            "++a=1~2", "+a=1~2-", "+a=1.0~2", "*a=1~2"}) {
            r = at("11: STATE: it is none (" + text + ")").writes(text, text.length());
            r.refused("chain()", S).is("count(5)", text.length()).is("count(0)", 0);
        }
    }

    private static void chainOutside() {
        for (String bounds : new String[] {"1~0", "3~2", "0~-1", "-1~-2", "9999~9998", "9999~-9999", "-9998~-9999", "1~-1", "10~9"}) {
            Run r = at("11: OUTSIDE: the least is above the greatest (" + bounds + ")").writes("+a=" + bounds, 3 + bounds.length());
            r.refused("chain()", O).is("count(5)", 3 + bounds.length()).is("count(0)", 0);
        }
        for (String bounds : new String[] {"0~0", "0~1", "-1~0", "-2~-1", "9998~9999", "-9999~9999", "-9999~-9999", "-0~0", "0~-0", "9~10"}) {
            at("11: OUTSIDE: the least is above the greatest (it is not: " + bounds + ")").chain("+a=" + bounds, 0);
        }
    }

    private static void chainFull() {
        Run r = at("11: CHAINS (6 at most, numbered) .. FULL");
        for (int n = 0; n < 6; n++) r.chain("+a=" + n + "~9", n);
        r.writes("+b=7~8", 6).refused("chain()", F).is("count(0)", 6).is("count(5)", 6).is("fault()", 6);
        for (int n = 0; n < 6; n++) r.is("of(" + n + ", 1)", n);
        r.is("of(6, 1)", -100001).is("blank()", 6);
    }

    private static void chainOrder() {
        Run r = at("11: STATE ..; OUTSIDE ..; FULL .. of several the first as told");
        r.chain("+a=2~1x", S).chain("+a+a+a+a+a+a+a=2~1", S);
        for (int n = 0; n < 6; n++) r.chain("+a=1~2", n);
        r.chain("+a=2~1", O).is("count(5)", 6).chain("+a=1~2x", S).is("count(5)", 7).is("blank()", 7).refused("chain()", S);
    }

    private static void chainTerms() {
        Run r = at("11: one to six TERMS").chain("=1~2", S).chain("+a=1~2", 0).is("of(0, 0)", 1);
        r.chain("+a-a+a-a+a-a=1~2", 1).is("of(1, 0)", 6).is("of(1, 3)", 0).chain("+a-a+a-a+a-a+a=1~2", S);
        r = at("11: a letter a to h").is("part(0, 1, 7)", 100).is("part(7, 1, 9)", 100);
        r.chain("+a=1~2", 0).chain("-h=1~2", 1).is("of(0, 3)", 7).is("of(1, 3)", -9).chain("+i=1~2", S).chain("+`=1~2", S);
    }

    private static void chainNumbers() {
        Run r = at("11: perhaps \"-\", one to four digits");
        r.chain("+a=0~9", 0).is("of(0, 1)", 0).is("of(0, 2)", 9);
        r.chain("+a=-9~-0", 1).is("of(1, 1)", -9).is("of(1, 2)", 0);
        r.chain("+a=-9999~9999", 2).is("of(2, 1)", -9999).is("of(2, 2)", 9999);
        r.chain("+a=0007~0010", 3).is("of(3, 1)", 7).is("of(3, 2)", 10);
        r.chain("+a=-0010~-0007", 4).is("of(4, 1)", -10).is("of(4, 2)", -7);
        r.chain("+a=00001~2", S).chain("+a=1~00002", S).chain("+a=-12345~2", S).chain("+a=1~-12345", S);
    }

    // ---- promise 12

    private static void of() {
        Run r = at("12: -100001: UNKNOWN").beside("of(#, 0)", 0, -1, -100001);
        for (int n = 0; n < 6; n++) {
            r.chain("+a=" + n + "~9", n).is("of(" + n + ", 1)", n).refused("of(" + (n + 1) + ", 1)", -100001);
        }
        r.beside("of(#, 0)", 0, 5, -100001).beside("of(#, 6)", 0, 5, -100001);
        r = at("12: what = 0 how many TERMS, .. 6 whether it HOLDS .. -100002: OUTSIDE").chain("+a=92~108", 0);
        r.same("of(0, 0)", 1).same("of(0, 6)", 1).beside("of(0, #)", 0, 6, -100002);
        r = at("12: -100001: UNKNOWN, -100002: OUTSIDE .. of several the first as told");
        r.refused("of(0, 7)", -100001).chain("+a=1~2", 0).refused("of(1, 7)", -100001).refused("of(-1, -1)", -100001);
        holds();
        greatestSums();
    }

    private static void holds() {
        Run r = at("12: HOLDS, if GAP less the SPANS .. is the least at least").chain("+a=92~999", 0).chain("+a=93~999", 1);
        r.is("of(0, 4)", 92).is("of(0, 6)", 1).is("of(1, 4)", 92).is("of(1, 6)", 0);
        r = at("12: and GAP and these at most the greatest").chain("+a=0~108", 0).chain("+a=0~107", 1);
        r.is("of(0, 5)", 108).is("of(0, 6)", 1).is("of(1, 5)", 108).is("of(1, 6)", 0);
        r = at("12: HOLDS .. (both ends at once)").chain("+a=92~108", 0).is("of(0, 6)", 1);
        r = at("12: HOLDS .. (SPANS of 0, bounds alike)").is("grade(0, 0, 0)", 8).chain("+a=100~100", 0).is("of(0, 6)", 1);
        r.is("part(0, 1, 101)", 100).is("of(0, 6)", 0).is("part(0, 1, 99)", 101).is("of(0, 6)", 0);
        r = at("12: SPANS (by GRADES) of all its TERMS (one PART in several)").chain("+a-a=-16~16", 0).chain("+a-a=-15~16", 1);
        r.chain("+a-a=-16~15", 2).is("of(0, 4)", -16).is("of(0, 5)", 16).is("of(0, 6)", 1).is("of(1, 6)", 0).is("of(2, 6)", 0);
    }

    private static void greatestSums() {
        Run r = at("12: GAP, its least, its greatest by SPANS (as far as they go)");
        r.is("part(7, 0, 5)", 0).is("part(7, 1, 999)", 100).is("grade(0, 0, 99)", 8);
        r.chain("+h+h+h+h+h+h=-9999~9999", 0).chain("-h-h-h-h-h-h=-9999~9999", 1);
        r.is("of(0, 3)", 6006).is("of(0, 4)", 5412).is("of(0, 5)", 6600).is("of(0, 6)", 1);
        r.is("of(1, 3)", -6006).is("of(1, 4)", -6600).is("of(1, 5)", -5412).is("of(1, 6)", 1);
    }

    // ---- promise 13

    private static void odds() {
        Run r = at("13: -1: UNKNOWN").refused("odds(0, 0)", -1).chain("+a=0~99", 0).chain("+a=100~101", 1);
        r.same("odds(0, 0)", 0).same("odds(1, 0)", 1).beside("odds(#, 0)", 0, 1, -1).beside("odds(#, 1)", 0, 1, -1);
        r = at("13: part 0 above, 1 below. -1: OUTSIDE").chain("+a=0~99", 0);
        r.same("odds(0, 0)", 0).same("odds(0, 1)", 1).beside("odds(0, #)", 0, 1, -1).refused("odds(1, 2)", -1);
        r = at("13: none at all: one that is off by 0").chain("+a=100~100", 0).chain("+a=99~99", 1).chain("+a=101~101", 2);
        oddsAre(r, 0, 1, 1);
        oddsAre(r, 1, 0, 1);
        oddsAre(r, 2, 0, 1);
        r.is("counted(0, 1, 1)", 0);
        oddsAre(r, 0, 0, 1);
        oddsAre(r, 2, 1, 1);
        r.is("counted(0, 1, 0)", 1);
        oddsAre(r, 0, 1, 1);
        oddsWithin();
        oddsLowest();
        oddsEach();
        oddsGreatest();
    }

    private static void oddsAre(Run r, int chain, long above, long below) {
        r.is("odds(" + chain + ", 0)", above).is("odds(" + chain + ", 1)", below);
    }

    private static void oddsWithin() {
        Run r = at("13: within its bounds (the least and the greatest are)");
        r.chain("+a=99~101", 0).chain("+a=96~104", 1).chain("+a=97~103", 2).chain("-a=-96~0", 3).chain("-a=-999~-104", 4);
        for (int d = -4; d <= 4; d++) r.is("counted(0, " + d + ", 1)", 0);
        oddsAre(r, 0, 1, 3);
        oddsAre(r, 1, 1, 1);
        oddsAre(r, 2, 7, 9);
        oddsAre(r, 3, 1, 9);      // off by -4: less 96
        oddsAre(r, 4, 1, 9);      // off by 4: less 104
    }

    private static void oddsLowest() {
        Run r = at("13: in lowest terms").chain("+a=100~100", 0).is("counted(0, 0, 33)", 0).is("counted(0, 1, 66)", 0);
        oddsAre(r, 0, 1, 3);
        r = at("13: in lowest terms (none of them: 0 by 1)").chain("+a=0~0", 0).is("counted(0, 0, 33)", 0);
        oddsAre(r, 0, 0, 1);
        r = at("13: in lowest terms (all of them: 1 by 1)").chain("+a=0~999", 0).is("counted(0, 4, 33)", 0).is("counted(0, 1, 7)", 0);
        oddsAre(r, 0, 1, 1);
    }

    private static void oddsEach() {
        Run r = at("13: for each TERM (each by itself: one PART in several)").chain("+a-a=0~0", 0).chain("+a+a=200~200", 1);
        r.is("counted(0, -1, 1)", 0).is("counted(0, 1, 3)", 0);
        oddsAre(r, 0, 5, 8);      // 1 by 1 and 3 by 3 of 16
        oddsAre(r, 1, 3, 8);      // 1 by 3 and 3 by 1 of 16
    }

    private static void oddsGreatest() {
        Run r = at("13: ODDS (numbers far above what an int has)").chain("+a+a+a+a+a+a=624~624", 0);
        for (int d = -4; d <= 4; d++) r.is("counted(0, " + d + ", " + (d == 0 ? 98 : 99) + ")", 0);
        oddsAre(r, 0, 941480149401L, 496981290961000000L);      // 99 to the 6th, 890 to the 6th
        r = at("13: ODDS (all counted as often as can be, six TERMS)").chain("+a-b+c-d+e-f=24~24", 0).chain("+a-b+c-d+e-f=-9999~9999", 1);
        for (int p = 0; p < 6; p++) {
            for (int d = -4; d <= 4; d++) r.is("counted(" + p + ", " + d + ", 99)", 0);
        }
        oddsAre(r, 0, 1, 531441);
        oddsAre(r, 1, 1, 1);
    }

    // ---- promise 14

    private static void giveOut() {
        Run r = at("14: PARTS 0 to n less 1 (n 1 to 6) .. OUTSIDE: n");
        r.is("giveOut(1, 0)", 1).is("giveOut(6, 0)", 6).beside("giveOut(#, 0)", 1, 6, O).beside("giveOut(#, 10)", 1, 6, O);
        for (int n = 1; n <= 6; n++) {
            r = at("14: OUTSIDE: .. what (10 to 9 and n else), n is " + n);
            r.is("giveOut(" + n + ", 10)", 0).is("giveOut(" + n + ", " + (9 + n) + ")", 0).is("giveOut(" + n + ", 0)", n);
            r.beside("giveOut(" + n + ", #)", 10, 9 + n, O).refused("giveOut(" + n + ", 1)", O).refused("giveOut(" + n + ", -1)", O);
            r.is("count(6)", 3);
        }
        giveOutTimes();
        giveOutNone();
        giveOutHolds();
        giveOutLike();
        giveOutParts();
        giveOutPrices();
    }

    private static void giveOutTimes() {
        Run r = at("14: STATE: it was done 30 times");
        for (int i = 1; i <= 30; i++) r.is("giveOut(2, " + (i % 2 == 0 ? 0 : 11) + ")", i % 2 == 0 ? 2 : 0).is("count(6)", i);
        for (int i = 0; i < 3; i++) r.refused("giveOut(2, 0)", S);
        r.refused("giveOut(1, 10)", S).is("count(6)", 30);
        r.refused("giveOut(0, 0)", O).refused("giveOut(7, 0)", O).refused("giveOut(2, 12)", O).refused("giveOut(1, 1)", O);
        r = at("14: STATE: it was done 30 times (what is refused is not done)");
        for (int i = 0; i < 40; i++) r.is("giveOut(7, 0)", O);
        r.is("count(6)", 0).is("giveOut(1, 0)", 1);
        r = at("14: STATE: it was done 30 times (without any that is given out, too)").chain("+h=100~100", 0);
        for (int i = 1; i <= 30; i++) r.is("giveOut(1, 0)", -1);
        r.is("count(6)", 30).refused("giveOut(1, 0)", S);
    }

    private static void giveOutNone() {
        Run r = at("14: none: there is none .. NONE: none").chain("+a-b=-1~1", 0);
        r.is("giveOut(2, 0)", -1).is("giveOut(2, 10)", -1).is("giveOut(2, 11)", -1).is("giveOut(6, 15)", -1);
        r = at("14: so that all CHAINS HOLD (no GAP is within)").chain("+a=101~999", 0).is("giveOut(1, 0)", -1);
        r = at("14: so that all CHAINS HOLD (the last of six)");
        for (int n = 0; n < 5; n++) r.chain("+a=92~108", n);
        r.is("giveOut(1, 0)", 1).chain("+a=100~100", 5).is("giveOut(1, 0)", -1);
        r = at("14: so that all CHAINS HOLD (there are no CHAINS)").is("giveOut(3, 0)", 3).is("giveOut(3, 12)", 0);
    }

    private static void giveOutHolds() {
        int[][] dues = {{92, 108, 0}, {93, 108, 1}, {92, 107, 1}, {96, 104, 1}, {97, 104, 2}, {96, 103, 2}, {98, 102, 2}, {99, 102, 3},
            {98, 101, 3}, {99, 101, 3}};
        for (int[] d : dues) {
            Run r = at("14: HOLDS .. the least at least, .. at most the greatest: " + d[0] + "~" + d[1]);
            r.chain("+a=" + d[0] + "~" + d[1], 0).is("giveOut(1, 10)", d[2]).is("giveOut(1, 0)", 1 << d[2]);
        }
        for (String bounds : new String[] {"100~101", "99~100", "100~100"}) {
            at("14: HOLDS .. not even with the least SPAN: " + bounds).chain("+a=" + bounds, 0).is("giveOut(1, 0)", -1);
        }
    }

    private static void giveOutLike() {
        Run r = at("14: of like ones PART 0's GRADE is least, then PART 1's, ..").chain("+a-b+c=86~114", 0);
        for (int g = 0; g < 4; g++) r.call("grade(" + g + ", 1, 1)");
        r.is("giveOut(3, 0)", 3).is("giveOut(3, 10)", 0).is("giveOut(3, 11)", 1).is("giveOut(3, 12)", 2);
        r = at("14: of like ones .. (all GRADES of all six PARTS are)");
        for (int g = 0; g < 4; g++) r.call("grade(" + g + ", 1, 0)");
        r.is("giveOut(6, 0)", 0);
        for (int i = 0; i < 6; i++) r.is("giveOut(6, " + (10 + i) + ")", 0);
        r = at("14: of like ones .. (PRICES are ahead of GRADES)").is("grade(3, 1, 0)", 8).is("giveOut(2, 0)", 0);
        r.is("giveOut(2, 10)", 3).is("giveOut(2, 11)", 3);
    }

    private static void giveOutParts() {
        Run r = at("14: GIVEN OUT to PARTS 0 to n less 1 (the others keep their GRADES)").chain("+a-g=-9~9", 0).chain("+b-f=-5~5", 1);
        r.is("part(6, 2, 0)", 0).is("part(5, 2, 3)", 0).is("giveOut(2, 10)", 3).is("giveOut(2, 11)", 1).is("giveOut(2, 0)", 10);
        r.is("part(6, 2, 3)", 0).is("giveOut(2, 10)", 0).is("giveOut(6, 0)", 1 + 4 + 1 + 1 + 1 + 4).is("giveOut(6, 15)", 2);
        r = at("14: GIVEN OUT (the GRADES of the drawing stay)").is("part(0, 2, 2)", 0).is("part(1, 2, 1)", 0).is("giveOut(2, 10)", 0);
        r.is("part(0, 2, 2)", 2).is("part(1, 2, 1)", 1);
    }

    private static void giveOutPrices() {
        Run r = at("14: GRADES of these .. whose PRICES together are least (the greatest)");
        for (int p = 0; p < 6; p++) r.is("part(" + p + ", 0, 3)", 0);
        for (int g = 0; g < 4; g++) r.call("grade(" + g + ", 1, 999)");
        r.is("giveOut(6, 0)", 17982).is("giveOut(1, 0)", 2997);
        r = at("14: PRICES (BOUGHT, rounded down: two GRADES are alike)").is("part(0, 0, 4)", 0).is("grade(0, 1, 3)", 1).is("giveOut(1, 0)", 1);
        r.is("giveOut(1, 10)", 0).is("grade(3, 1, 1)", 8).is("giveOut(1, 0)", 0).is("giveOut(1, 10)", 3);
    }
}
