/** Promises 1 to 14: a new object, PARTS, GRADES, THE PAGE, CHAINS, ODDS, what is GIVEN OUT. */
public final class DrawingTest {
    private static final int U = SmallMakers.UNKNOWN, O = SmallMakers.OUTSIDE, S = SmallMakers.STATE, F = SmallMakers.FULL;
    private static final int LOW = Integer.MIN_VALUE, TOP = Integer.MAX_VALUE;
    private static final Due due = new Due();

    public static void main(String[] args) {
        newObject();
        part();
        as();
        size();
        grade();
        price();
        counted();
        letters();
        blank();
        fault();
        chain();
        of();
        odds();
        giveOut();
        due.end();
    }

    private static void newObject() {
        due.about("promise 1");
        SmallMakers x = new SmallMakers();
        for (int what = 0; what <= 9; what++) due.is(0, x.count(what), "count(" + what + ") of a new object");
        for (int p = 0; p < 8; p++) {
            due.is(0, x.part(p, 0, 0), "KIND at first");
            due.is(100, x.part(p, 1, 100), "NAME at first");
            due.is(0, x.part(p, 2, 0), "GRADE at first");
            for (int d = -4; d <= 4; d++) due.is(0, x.counted(p, d, 0), "counted at first");
            for (int m = 0; m < 6; m++) due.is(-1, x.in(m, p), "in a machine at first");
            for (int s = 0; s < 4; s++) due.is(0, x.offer(s, p, 0, 0), "offer at first");
        }
        int[] span = {8, 4, 2, 1}, rate = {1, 2, 4, 8};
        for (int g = 0; g < 4; g++) {
            due.is(span[g], x.grade(g, 0, span[g]), "SPAN at first");
            due.is(rate[g], x.grade(g, 1, rate[g]), "RATE at first");
        }
        for (int s = 0; s < 4; s++) due.is(8, x.hours(s, 8), "HOURS at first");
        for (int f = 0; f < 4; f++) due.is(0, x.asked(f, 0), "ASKED at first");
        for (int m = 0; m < 6; m++) due.is(0, x.told(m, 0), "told at first");
        due.is(new SmallMakers().digest(), x.digest(), "digest() after what changes nothing");
    }

    private static void part() {
        due.about("promise 2");
        SmallMakers x = new SmallMakers();
        due.is(0, x.part(7, 0, 6), "part(7, 0, 6)");
        due.is(6, x.part(7, 0, 3), "part(7, 0, 3)");
        due.is(100, x.part(7, 1, 999), "part(7, 1, 999)");
        due.is(999, x.part(7, 1, 0), "part(7, 1, 0)");
        due.is(0, x.part(7, 2, 3), "part(7, 2, 3)");
        due.is(3, x.part(7, 2, 1), "part(7, 2, 1)");
        due.is(100, x.part(0, 1, 5), "another part's NAME");
        x.thing(2, 0);
        long before = x.digest();
        for (int p : new int[] {-1, 8, LOW, TOP}) due.is(U, x.part(p, 0, 99), "part(" + p + ", 0, 99)");
        for (int what : new int[] {-1, 3, LOW, TOP}) due.is(U, x.part(0, what, -1), "part(0, " + what + ", -1)");
        int[] above = {7, 1000, 4};
        for (int what = 0; what < 3; what++) {
            for (int v : new int[] {-1, above[what], LOW, TOP}) due.is(O, x.part(2, what, v), "part(2, " + what + ", " + v + ")");
        }
        due.is(S, x.part(2, 0, 1), "KIND of a part of which there are things");
        due.is(S, x.part(2, 0, 0), "the same KIND of a part of which there are things");
        due.is(before, x.digest(), "digest() after refusals");
        due.is(100, x.part(2, 1, 3), "NAME of a part of which there are things");
        due.is(0, x.part(2, 2, 3), "GRADE of a part of which there are things");
        due.is(0, x.part(1, 0, 4), "KIND of a part of which there are no things");
    }

    private static void as() {
        due.about("promise 3");
        SmallMakers x = new SmallMakers();
        for (int own = 0; own <= 6; own++) {
            x.part(5, 0, own);
            for (int kind = 0; kind <= 6; kind++) {
                boolean is = kind == 0 || kind == own || own == 6 && kind == 1;
                due.is(is ? 5 : -1, x.as(5, kind), "as(5, " + kind + ") of a " + own);
            }
        }
        for (int p : new int[] {-1, 8, LOW, TOP}) due.is(U, x.as(p, 9), "as(" + p + ", 9)");
        for (int k : new int[] {-1, 7, LOW, TOP}) due.is(O, x.as(0, k), "as(0, " + k + ")");
    }

    private static void size() {
        due.about("promise 4");
        SmallMakers x = new SmallMakers();
        int[][] sizes = {
            {100, 99, 100, 98, 100, 102, 100}, {0, -1, 0, 0, 0, 2, 0}, {49, 48, 49, 49, 49, 51, 49},
            {50, 49, 50, 49, 50, 52, 50}, {999, 998, 999, 980, 999, 1001, 999}};
        for (int[] row : sizes) {
            x.part(3, 1, row[0]);
            for (int kind = 0; kind <= 6; kind++) {
                x.part(3, 0, kind);
                due.is(row[kind], x.size(3), "size(3), KIND " + kind + ", NAME " + row[0]);
            }
        }
        for (int p : new int[] {-1, 8, LOW, TOP}) due.is(U, x.size(p), "size(" + p + ")");
    }

    private static void grade() {
        due.about("promise 5");
        SmallMakers x = new SmallMakers();
        due.is(8, x.grade(0, 0, 99), "grade(0, 0, 99)");
        due.is(99, x.grade(0, 0, 0), "grade(0, 0, 0)");
        due.is(1, x.grade(0, 1, 999), "grade(0, 1, 999)");
        due.is(999, x.grade(0, 1, 0), "grade(0, 1, 0)");
        due.is(1, x.grade(3, 0, 7), "grade(3, 0, 7)");
        due.is(8, x.grade(3, 1, 7), "grade(3, 1, 7)");
        long before = x.digest();
        for (int g : new int[] {-1, 4, LOW, TOP}) due.is(U, x.grade(g, 0, -1), "grade(" + g + ", 0, -1)");
        for (int w : new int[] {-1, 2, LOW, TOP}) due.is(U, x.grade(0, w, -1), "grade(0, " + w + ", -1)");
        for (int v : new int[] {-1, 100, LOW, TOP}) due.is(O, x.grade(0, 0, v), "grade(0, 0, " + v + ")");
        for (int v : new int[] {-1, 1000, LOW, TOP}) due.is(O, x.grade(0, 1, v), "grade(0, 1, " + v + ")");
        due.is(before, x.digest(), "digest() after refusals");
    }

    private static void price() {
        due.about("promise 6");
        SmallMakers x = new SmallMakers();
        x.grade(1, 1, 7);
        x.grade(2, 1, 0);
        int[] atSeven = {7, 14, 10, 21, 3, 17, 15}, atNone = {0, 0, 3, 0, 0, 10, 1}, atEight = {8, 16, 11, 24, 4, 18, 17};
        for (int kind = 0; kind <= 6; kind++) {
            x.part(6, 0, kind);
            due.is(atSeven[kind], x.price(6, 1), "price(6, 1), KIND " + kind);
            due.is(atNone[kind], x.price(6, 2), "price(6, 2), KIND " + kind);
            due.is(atEight[kind], x.price(6, 3), "price(6, 3), KIND " + kind);
        }
        x.part(6, 2, 1);
        due.is(17, x.price(6, 3), "the GRADE is the one that is asked for");
        for (int p : new int[] {-1, 8, LOW, TOP}) due.is(U, x.price(p, 0), "price(" + p + ", 0)");
        for (int g : new int[] {-1, 4, LOW, TOP}) due.is(U, x.price(0, g), "price(0, " + g + ")");
    }

    private static void counted() {
        due.about("promise 7");
        SmallMakers x = new SmallMakers();
        for (int d = -4; d <= 4; d++) due.is(0, x.counted(1, d, 50 + d), "counted(1, " + d + ")");
        for (int d = -4; d <= 4; d++) due.is(50 + d, x.counted(1, d, 99), "counted(1, " + d + ") again");
        due.is(0, x.counted(2, 4, 1), "counted of another part");
        due.is(99, x.counted(1, 0, 0), "counted(1, 0, 0)");
        long before = x.digest();
        for (int p : new int[] {-1, 8, LOW, TOP}) due.is(U, x.counted(p, 0, -1), "counted(" + p + ", 0, -1)");
        for (int d : new int[] {-5, 5, LOW, TOP}) due.is(U, x.counted(0, d, 100), "counted(0, " + d + ", 100)");
        for (int v : new int[] {-1, 100, LOW, TOP}) due.is(O, x.counted(0, 0, v), "counted(0, 0, " + v + ")");
        due.is(before, x.digest(), "digest() after refusals");
    }

    private static void letters() {
        due.about("promise 8");
        SmallMakers x = new SmallMakers();
        due.is(0, x.letters(0), "letters(0)");
        due.is(8, x.letters(Due.packed("+a+b+c+d")), "eight letters");
        due.is(10, x.letters(Due.packed("=1")), "two letters behind them");
        due.is(10, x.letters(0), "none behind them");
        due.is(11, x.letters(126), "a letter 126");
        due.is(12, x.letters(1), "a letter 1");
        long before = x.digest();
        due.is(O, x.letters(127), "a letter 127");
        due.is(O, x.letters(128), "a letter 128");
        due.is(O, x.letters(255), "a letter 255");
        due.is(O, x.letters(-1), "all letters 255");
        due.is(O, x.letters(Long.MIN_VALUE), "a letter 128 behind zeros");
        due.is(O, x.letters(0x0100000000000041L), "a letter behind zeros");
        due.is(O, x.letters(0x410041L), "a letter behind a zero");
        due.is(O, x.letters(0x4100L), "a letter behind a zero ahead");
        due.is(O, x.letters(0x7f41414141414141L), "a last letter 127");
        due.is(before, x.digest(), "digest() after refusals");
        Due.write(x, "0123456789012345678901234567");
        due.is(40, x.count(5), "forty letters");
        due.is(40, x.letters(0), "letters(0) on a full page");
        due.is(F, x.letters(65), "one letter more");
        due.is(O, x.letters(255), "OUTSIDE is ahead of FULL");
        due.is(40, x.count(5), "forty letters still");
        x.blank();
        Due.write(x, "0123456789012345678901234567890123456");
        due.is(F, x.letters(Due.packed("abcd")), "four letters behind 37");
        due.is(37, x.count(5), "none of them is taken");
        due.is(40, x.letters(Due.packed("abc")), "three letters behind 37");
    }

    private static void blank() {
        due.about("promise 9");
        SmallMakers x = new SmallMakers();
        long empty = x.digest();
        due.is(0, x.blank(), "blank() of none");
        Due.write(x, "+a=1~2");
        due.is(6, x.blank(), "blank() of six");
        due.is(0, x.blank(), "blank() again");
        due.is(empty, x.digest(), "digest() of an empty page");
        Due.write(x, "+b=0~3");
        due.is(0, x.chain(), "what was blanked is not read");
    }

    private static void fault() {
        due.about("promise 10");
        faultAt(0, "");
        faultAt(0, "a");
        faultAt(0, "=");
        faultAt(0, " +a");
        faultAt(1, "+");
        faultAt(1, "+i=1~2");
        faultAt(1, "+A");
        faultAt(1, "+`");
        faultAt(2, "+a");
        faultAt(2, "+aa");
        faultAt(2, "+a ");
        faultAt(12, "+a+b-c+d-e+f");
        faultAt(13, "+a+b-c+d-e+f=");
        faultAt(12, "+a+b-c+d-e+f+g=1~2");
        faultAt(12, "+a+b-c+d-e+f-");
        faultAt(3, "+h=");
        faultAt(3, "+h=~");
        faultAt(3, "+h=+1");
        faultAt(4, "+h=-");
        faultAt(4, "+h=--1");
        faultAt(4, "+h=-~1");
        faultAt(7, "+h=1234");
        faultAt(7, "+h=12345");
        faultAt(8, "+h=-1234");
        faultAt(8, "+h=-12345~1");
        faultAt(4, "+h=1-2");
        faultAt(5, "+h=1~");
        faultAt(5, "+h=1~~");
        faultAt(6, "+h=1~-");
        faultAt(7, "+h=1~-1~");
        faultAt(9, "+h=1~0000");
        faultAt(9, "+h=1~00000");
        faultAt(10, "+h=1~-0000");
        faultAt(6, "+h=9~1");
        faultAt(6, "+h=9~1 ");
        faultAt(24, "+a+b-c+d-e+f=-9999~-9999");
        faultAt(24, "+a+b-c+d-e+f=-9999~-99990");
        faultAt(4, "+h=1/2");
        faultAt(4, "+h=1:2");
    }

    private static void faultAt(int place, String text) {
        SmallMakers x = new SmallMakers();
        Due.write(x, text);
        long before = x.digest();
        due.is(place, x.fault(), "fault() of \"" + text + "\"");
        due.is(before, x.digest(), "digest() after fault()");
    }

    private static void chain() {
        due.about("promise 11");
        SmallMakers x = new SmallMakers();
        due.is(S, x.chain(), "chain() of nothing");
        for (String text : new String[] {"+a=1~", "+a=1~2x", "=1~2", "+a+a+a+a+a+a+a=1~2", "a=1~2", "+a=~2", "+a=1-2", "+a=9~1x"}) {
            due.is(S, Due.chain(x, text), "chain() of " + text);
            due.is(text.length(), x.count(5), "letters of " + text);
        }
        due.is(O, Due.chain(x, "+a=3~2"), "least above greatest");
        due.is(O, Due.chain(x, "+a=-2~-3"), "least above greatest below 0");
        due.is(8, x.count(5), "the page stays");
        due.is(0, Due.chain(x, "+a-h+b-c+d-e=-9999~9999"), "six terms");
        due.is(0, x.count(5), "the page is empty then");
        due.is(1, Due.chain(x, "-b=-0~0000"), "zeros");
        due.is(2, Due.chain(x, "+c=2~2"), "least is greatest");
        for (int i = 3; i < 6; i++) due.is(i, Due.chain(x, "+a=1~2"), "chain " + i);
        long before = x.digest();
        Due.write(x, "+a=1~2");
        due.is(F, x.chain(), "a seventh");
        due.is(6, x.blank(), "its page stays");
        due.is(before, x.digest(), "digest() after FULL");
        due.is(O, Due.chain(x, "+a=2~1"), "OUTSIDE is ahead of FULL");
        due.is(S, Due.chain(x, "+a=2~"), "STATE is ahead of FULL");
        due.is(6, x.count(0), "count(0)");
    }

    private static void of() {
        due.about("promise 12");
        SmallMakers x = new SmallMakers();
        x.part(0, 1, 300);
        x.part(1, 1, 120);
        x.part(1, 2, 2);
        x.part(2, 1, 50);
        x.part(2, 2, 3);
        Due.chain(x, "+a-b-c-b=-5~25");
        int[] told = {4, -5, 25, 10, 10 - 13, 10 + 13, 1};
        for (int what = 0; what < 7; what++) due.is(told[what], x.of(0, what), "of(0, " + what + ")");
        x.part(0, 1, 298);
        due.is(1, x.of(0, 6), "its least is the least");
        x.part(0, 1, 297);
        due.is(0, x.of(0, 6), "its least is below the least");
        x.part(0, 1, 302);
        due.is(1, x.of(0, 6), "its greatest is the greatest");
        x.part(0, 1, 303);
        due.is(0, x.of(0, 6), "its greatest is above the greatest");
        Due.chain(x, "-a=-9999~9999");
        due.is(-303, x.of(1, 3), "a GAP below 0");
        due.is(-311, x.of(1, 4), "its least");
        due.is(-295, x.of(1, 5), "its greatest");
        x.part(0, 0, 5);
        due.is(-305, x.of(1, 3), "SIZE goes by KIND");
        for (int c : new int[] {-1, 2, LOW, TOP}) due.is(-100001, x.of(c, 9), "of(" + c + ", 9)");
        for (int w : new int[] {-1, 7, LOW, TOP}) due.is(-100002, x.of(0, w), "of(0, " + w + ")");
    }

    private static void odds() {
        due.about("promise 13");
        SmallMakers x = new SmallMakers();
        Due.chain(x, "+a-b=0~2");
        Due.chain(x, "+a=101~900");
        Due.chain(x, "+a+a=199~201");
        Due.chain(x, "-c=-99~0");
        oddsAre(x, 0, 1, 1);
        oddsAre(x, 1, 0, 1);
        x.counted(0, -1, 2);
        x.counted(0, 1, 4);
        x.counted(1, 0, 1);
        x.counted(1, 2, 2);
        x.counted(2, -4, 1);
        x.counted(2, 4, 9);
        oddsAre(x, 0, 2, 9);      // only 1 - 0: 4 by 1 of 6 by 3
        oddsAre(x, 1, 2, 3);
        oddsAre(x, 2, 4, 9);      // the two of one part are each by itself: 2 times 2 by 4 of 36
        oddsAre(x, 3, 1, 10);     // "-": one that is off by -4 makes the gap greater
        x.counted(2, -4, 0);
        x.counted(2, 4, 0);
        oddsAre(x, 3, 0, 1);
        Due.chain(x, "+h-h+h-h+h-h=0~0");
        for (int d = -4; d <= 4; d++) x.counted(7, d, 99);
        oddsAre(x, 4, 32661 / 9, 531441 / 9);      // C(29,5) - 6 C(20,5) + 15 C(11,5) of 9 to the 6th
        due.is(-1, x.odds(-1, 0), "odds(-1, 0)");
        due.is(-1, x.odds(5, 0), "odds(5, 0)");
        for (int side : new int[] {-1, 2, LOW, TOP}) due.is(-1, x.odds(0, side), "odds(0, " + side + ")");
        due.is(-1, x.odds(TOP, 5), "odds(TOP, 5)");
        for (int d = -4; d <= 4; d++) x.counted(7, d, 99 - 2 * (d & 1));
        due.holds(x.odds(4, 1) > 0 && x.odds(4, 0) > 0 && x.odds(4, 0) < x.odds(4, 1), "the greatest counts do not wrap");
    }

    private static void oddsAre(SmallMakers x, int chain, long above, long below) {
        due.is(above, x.odds(chain, 0), "odds(" + chain + ", 0)");
        due.is(below, x.odds(chain, 1), "odds(" + chain + ", 1)");
    }

    private static void giveOut() {
        due.about("promise 14");
        SmallMakers x = new SmallMakers();
        due.is(2, x.giveOut(2, 0), "no chains: cheapest");
        x.grade(1, 1, 1);
        due.is(0, x.giveOut(1, 10), "of like PRICES the least GRADE");
        x.grade(3, 1, 0);
        due.is(3, x.giveOut(1, 10), "a cheaper GRADE above it");
        x = new SmallMakers();
        Due.chain(x, "+a-b=-6~6");
        due.is(6, x.giveOut(2, 0), "SPANS 4 and 2, or 2 and 4");
        due.is(1, x.giveOut(2, 10), "of both ways the one where part 0's GRADE is least");
        due.is(2, x.giveOut(2, 11), "so part 1's is 2");
        x = new SmallMakers();
        x.grade(1, 0, 8);
        x.grade(1, 1, 9);
        Due.chain(x, "+a-b=-6~6");
        long before = x.digest();
        due.is(8, x.giveOut(2, 0), "2 and 2");
        due.is(2, x.giveOut(2, 10), "GRADE of part 0");
        due.is(2, x.giveOut(2, 11), "GRADE of part 1");
        x.part(0, 2, 3);
        Due.chain(x, "+a-c=-9~12");
        due.is(4 + 4 + 4, x.giveOut(3, 0), "SPANS 2, 2, 2; with 1 for part 0, 8 for part 2 it were 13");
        fourParts();
        due.holds(before != x.digest(), "digest() tells how often it was done");
        fixed();
        outside();
    }

    private static void fourParts() {
        SmallMakers x = new SmallMakers();
        Due.chain(x, "+a-b+c-d=94~106");
        due.is(-1, x.giveOut(4, 0), "a GAP of 0 can't be");
        due.is(-1, x.giveOut(4, 13), "so there is no GRADE");
        x = new SmallMakers();
        Due.chain(x, "+a-b+c-d=-15~15");
        due.is(10, x.giveOut(4, 0), "SPANS 4, 4, 4, 2; 8, 2, 2, 2 were 13; 8, 4, 2, 1 were 15");
        int[] grades = {1, 1, 1, 2};
        for (int i = 0; i < 4; i++) due.is(grades[i], x.giveOut(4, 10 + i), "GRADE of part " + i);
        x = new SmallMakers();
        Due.chain(x, "+a-b+c-b=-12~12");
        due.is(2 + 4 + 2, x.giveOut(3, 0), "a part that is there twice takes its SPAN twice");
    }

    private static void fixed() {
        SmallMakers x = new SmallMakers();
        Due.chain(x, "+a-g=-9~9");
        due.is(8, x.giveOut(1, 0), "part 6 keeps its GRADE of SPAN 8: 1 is left");
        due.is(0, x.part(0, 2, 0), "the drawing stays as it was");
        x.part(6, 2, 3);
        due.is(1, x.giveOut(1, 0), "part 6 has SPAN 1: 8 is left");
        due.is(1 + 1 + 1 + 1 + 1 + 1, x.giveOut(6, 0), "six parts");
        Due.chain(x, "+h=100~100");
        due.is(-1, x.giveOut(1, 0), "no SPAN at all is left");
    }

    private static void outside() {
        SmallMakers x = new SmallMakers();
        for (int n : new int[] {0, -1, 7, LOW, TOP}) due.is(O, x.giveOut(n, 0), "giveOut(" + n + ", 0)");
        for (int n = 1; n <= 6; n++) {
            for (int w : new int[] {-1, 1, 9, 10 + n, LOW, TOP}) due.is(O, x.giveOut(n, w), "giveOut(" + n + ", " + w + ")");
            due.is(0, x.giveOut(n, 9 + n), "giveOut(" + n + ", " + (9 + n) + ")");
        }
        due.is(6, x.count(6), "refusals are not counted");
        for (int i = 6; i < 30; i++) due.is(1, x.giveOut(1, 0), "giveOut(1, 0), " + i);
        long before = x.digest();
        due.is(S, x.giveOut(1, 0), "a 31st");
        due.is(S, x.giveOut(6, 15), "a 32nd");
        due.is(O, x.giveOut(7, 0), "OUTSIDE is ahead of STATE");
        due.is(30, x.count(6), "count(6)");
        due.is(before, x.digest(), "digest() after refusals");
    }
}
