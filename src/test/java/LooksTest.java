/** Promises 33 to 39: LOOKS, what they FIND, what is ASKED, ENOUGH; the ROW and its DRIFT. */
public final class LooksTest {
    private static final int U = SmallMakers.UNKNOWN, O = SmallMakers.OUTSIDE, F = SmallMakers.FULL;
    private static final int LOW = Integer.MIN_VALUE, TOP = Integer.MAX_VALUE;
    private static final Due due = new Due();

    public static void main(String[] args) {
        look();
        finds();
        asked();
        enough();
        enoughLike();
        made();
        unmade();
        drift();
        due.end();
    }

    private static void look() {
        due.about("promise 33");
        SmallMakers x = new SmallMakers();
        for (int c : new int[] {-1, 0, 1000, LOW, TOP}) due.is(O, x.look(c), "look(" + c + ")");
        due.is(0, x.look(1), "look(1)");
        due.is(1, x.look(999), "look(999)");
        for (int i = 2; i < 6; i++) due.is(i, x.look(5), "look " + i);
        long before = x.digest();
        due.is(F, x.look(5), "a seventh");
        due.is(O, x.look(0), "OUTSIDE is ahead of FULL");
        due.is(before, x.digest(), "digest() after refusals");
        due.is(6, x.count(3), "count(3)");
    }

    private static void finds() {
        due.about("promise 34");
        SmallMakers x = new SmallMakers();
        due.is(U, x.finds(0, 0, 0), "there are no looks");
        x.look(5);
        x.look(5);
        for (int f = 0; f < 4; f++) {
            due.is(0, x.finds(1, f, 99), "finds(1, " + f + ", 99)");
            due.is(99, x.finds(1, f, f), "finds(1, " + f + ", " + f + ")");
            due.is(f, x.finds(1, f, 0), "finds(1, " + f + ", 0)");
        }
        long before = x.digest();
        for (int l : new int[] {-1, 2, LOW, TOP}) due.is(U, x.finds(l, 0, -1), "finds(" + l + ", 0, -1)");
        for (int f : new int[] {-1, 4, LOW, TOP}) due.is(U, x.finds(0, f, -1), "finds(0, " + f + ", -1)");
        for (int v : new int[] {-1, 100, LOW, TOP}) due.is(O, x.finds(0, 0, v), "finds(0, 0, " + v + ")");
        due.is(before, x.digest(), "digest() after refusals");
    }

    private static void asked() {
        due.about("promise 35");
        SmallMakers x = new SmallMakers();
        for (int f = 0; f < 4; f++) {
            due.is(0, x.asked(f, 99), "asked(" + f + ", 99)");
            due.is(99, x.asked(f, f + 1), "asked(" + f + ", " + (f + 1) + ")");
        }
        long before = x.digest();
        for (int f : new int[] {-1, 4, LOW, TOP}) due.is(U, x.asked(f, -1), "asked(" + f + ", -1)");
        for (int v : new int[] {-1, 100, LOW, TOP}) due.is(O, x.asked(0, v), "asked(0, " + v + ")");
        due.is(before, x.digest(), "digest() after refusals");
        for (int f = 0; f < 4; f++) due.is(f + 1, x.asked(f, 0), "asked(" + f + ", 0)");
    }

    private static void enoughIs(SmallMakers x, int set, int cost) {
        due.is(set, x.enough(0), "enough(0)");
        due.is(cost, x.enough(1), "enough(1)");
    }

    private static void enough() {
        due.about("promise 36");
        SmallMakers x = new SmallMakers();
        enoughIs(x, 0, 0);
        x.asked(3, 1);
        enoughIs(x, -1, -1);
        for (int cost : new int[] {10, 4, 4, 3}) x.look(cost);
        enoughIs(x, -1, -1);
        x.finds(0, 3, 75);
        x.finds(1, 3, 50);
        x.finds(2, 3, 50);
        x.finds(3, 3, 49);
        enoughIs(x, 8, 3);
        x.asked(3, 50);
        enoughIs(x, 2, 4);      // of looks 1 and 2 the one of least bits
        x.asked(3, 74);
        enoughIs(x, 10, 7);     // 1 - 0.5 by 0.51 is 0.745
        x.asked(3, 75);
        enoughIs(x, 6, 8);      // 1 - 0.5 by 0.5 is 0.75, exactly
        x.finds(2, 3, 49);
        enoughIs(x, 1, 10);
        x.asked(0, 1);
        enoughIs(x, -1, -1);    // each fault must be found
        x.finds(3, 0, 1);
        enoughIs(x, 14, 11);    // looks 1, 2, 3: 1 - 0.5 by 0.51 by 0.51 is 0.86995
        x.asked(3, 87);
        enoughIs(x, 9, 13);     // 1 - 0.25 by 0.51 is 0.8725
        x.asked(3, 98);
        enoughIs(x, -1, -1);
        for (int w : new int[] {-1, 2, LOW, TOP}) due.is(O, x.enough(w), "enough(" + w + ")");
    }

    private static void enoughLike() {
        SmallMakers x = new SmallMakers();
        for (int cost : new int[] {2, 3, 5, 999, 999, 999}) x.look(cost);
        for (int l = 0; l < 2; l++) x.finds(l, 0, 90);
        x.finds(2, 0, 99);
        x.asked(0, 99);
        enoughIs(x, 4, 5);      // of like COST the one of fewest, though looks 0 and 1 are of less bits
        for (int l = 0; l < 6; l++) x.finds(l, 0, 53);
        x.asked(0, 98);
        enoughIs(x, 63, 3007);  // 1 - 0.47 to the 6th is 0.989.., to the 5th 0.977..
        x.finds(5, 0, 0);
        enoughIs(x, -1, -1);
        x.asked(0, 97);
        enoughIs(x, 31, 2008);
    }

    private static void made() {
        due.about("promise 37");
        SmallMakers x = new SmallMakers();
        for (int v : new int[] {-1, 100, LOW, TOP}) due.is(O, x.made(v), "made(" + v + ")");
        for (int i = 1; i <= 12; i++) due.is(i, x.made(9 * i - 9), "made " + i);
        long before = x.digest();
        due.is(F, x.made(0), "a 13th");
        due.is(O, x.made(100), "OUTSIDE is ahead of FULL");
        due.is(before, x.digest(), "digest() after refusals");
        due.is(12, x.count(4), "count(4)");
    }

    private static void unmade() {
        due.about("promise 38");
        SmallMakers x = new SmallMakers();
        long empty = x.digest();
        due.is(0, x.unmade(), "unmade() of none");
        for (int i = 0; i < 12; i++) x.made(99);
        due.is(12, x.unmade(), "unmade() of twelve");
        due.is(0, x.unmade(), "unmade() again");
        due.is(empty, x.digest(), "digest() of an empty row");
        due.is(1, x.made(0), "made(0) then");
    }

    private static void drift() {
        due.about("promise 39");
        SmallMakers x = new SmallMakers();
        for (int k = -1; k <= 2; k++) due.is(O, x.drift(k, 0), "of none: drift(" + k + ", 0)");
        x.made(4);
        for (int k = -1; k <= 2; k++) due.is(O, x.drift(k, 0), "of one: drift(" + k + ", 0)");
        for (int v : new int[] {1, 9, 2}) x.made(v);
        for (int k : new int[] {-1, 0, 4, 5, LOW, TOP}) due.is(O, x.drift(k, 0), "drift(" + k + ", 0)");
        for (int w : new int[] {-1, 2, LOW, TOP}) due.is(O, x.drift(1, w), "drift(1, " + w + ")");
        due.is(4, x.drift(1, 0), "4 is due, and it is 4: all are off as much at least");
        due.is(4, x.drift(2, 0), "8 is due, 5 came; 5, 13, 3, 11 are as far, 6 and 10 are not");
        due.is(6, x.drift(2, 1), "of six");
        due.is(3, x.drift(3, 0), "12 is due, 14 came; 14, 7 and 15 are as far, 12 is not");
        due.is(4, x.drift(3, 1), "of four");
        x.unmade();
        for (int v : new int[] {1, 2, 4}) x.made(v);
        due.is(2, x.drift(1, 0), "7 thirds are due, 1 came; 4 is as far, 2 is not");
        due.is(1, x.drift(2, 0), "14 thirds are due, 3 came; 5 and 6 are nearer");
        x.unmade();
        for (int i = 0; i < 12; i++) x.made(i < 6 ? 99 : 0);
        due.is(2, x.drift(6, 0), "all that came first, or none of it");
        due.is(924, x.drift(6, 1), "six of twelve");
        due.is(12, x.drift(1, 0), "each of twelve is off by as much");
        due.is(12, x.drift(11, 1), "eleven of twelve");
    }
}
