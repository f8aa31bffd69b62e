/** Promises 15 to 18: THINGS, MEASURES, what is KNOWN, MOST PAIRS. */
public final class ThingsTest {
    private static final int U = SmallMakers.UNKNOWN, O = SmallMakers.OUTSIDE, F = SmallMakers.FULL;
    private static final int LOW = Integer.MIN_VALUE, TOP = Integer.MAX_VALUE;
    private static final Due due = new Due();

    public static void main(String[] args) {
        thing();
        measure();
        known();
        pairs();
        pairsRefused();
        pairsTurned();
        pairsOfMany();
        due.end();
    }

    private static void thing() {
        due.about("promise 15");
        SmallMakers x = new SmallMakers();
        long before = x.digest();
        for (int p : new int[] {-1, 8, LOW, TOP}) due.is(U, x.thing(p, 99), "thing(" + p + ", 99)");
        for (int lot : new int[] {-1, 12, LOW, TOP}) due.is(O, x.thing(0, lot), "thing(0, " + lot + ")");
        due.is(before, x.digest(), "digest() after refusals");
        for (int i = 0; i < 24; i++) due.is(i, x.thing(i % 8, i % 12), "thing " + i);
        before = x.digest();
        due.is(F, x.thing(0, 0), "a 25th");
        due.is(U, x.thing(8, 0), "UNKNOWN is ahead of FULL");
        due.is(O, x.thing(0, 12), "OUTSIDE is ahead of FULL");
        due.is(before, x.digest(), "digest() after refusals");
        due.is(24, x.count(1), "count(1)");
        due.is(24, x.count(8), "all lie loose");
    }

    private static void measure() {
        due.about("promise 16");
        SmallMakers x = new SmallMakers();
        due.is(U, x.measure(0, 1, 1), "there are no things");
        x.thing(0, 0);
        x.thing(0, 0);
        long before = x.digest();
        for (int t : new int[] {-1, 2, LOW, TOP}) due.is(U, x.measure(t, -1, -1), "measure(" + t + ", -1, -1)");
        for (int v : new int[] {-1, 2000, LOW, TOP}) due.is(O, x.measure(0, v, 0), "measure(0, " + v + ", 0)");
        for (int e : new int[] {-1, 100, LOW, TOP}) due.is(O, x.measure(0, 0, e), "measure(0, 0, " + e + ")");
        due.is(before, x.digest(), "digest() after refusals");
        due.is(1, x.measure(1, 0, 0), "measure(1, 0, 0)");
        due.is(2, x.measure(1, 1999, 99), "measure(1, 1999, 99)");
        due.is(3, x.measure(1, 5, 5), "measure(1, 5, 5)");
        before = x.digest();
        due.is(F, x.measure(1, 5, 5), "a fourth");
        due.is(O, x.measure(1, 2000, 5), "OUTSIDE is ahead of FULL");
        due.is(U, x.measure(2, 5, 5), "UNKNOWN is ahead of FULL");
        due.is(before, x.digest(), "digest() after refusals");
        due.is(1, x.measure(0, 5, 5), "another one's first");
        due.is(4, x.count(9), "count(9)");
    }

    private static void known() {
        due.about("promise 17");
        SmallMakers x = new SmallMakers();
        x.thing(3, 0);
        ends(x, 0, -1001, -1001);
        x.measure(0, 0, 99);
        ends(x, 0, -99, 99);
        x.measure(0, 110, 11);
        ends(x, 0, 99, 99);
        x.measure(0, 110, 10);
        ends(x, 0, 99, 99);
        of(1, x, 100, 5, 111, 5);
        ends(x, 1, -1002, -1002);
        x.measure(1, 105, 1);
        ends(x, 1, 104, 105);                       // not the first two; first and third
        of(2, x, 100, 5, 111, 5, 107, 1);
        ends(x, 2, 106, 108);                       // second and third
        of(3, x, 100, 5, 104, 5, 98, 3);
        ends(x, 3, 99, 101);                        // all three
        of(4, x, 100, 5, 104, 5, 90, 6);
        ends(x, 4, 99, 105);                        // the first two, though first and third have something
        of(5, x, 100, 1, 110, 1, 120, 1);
        ends(x, 5, -1002, -1002);
        of(6, x, 1999, 99);
        ends(x, 6, 1900, 2098);
        of(7, x, 10, 1, 12, 1);
        ends(x, 7, 11, 11);
        of(8, x, 10, 1, 20, 1, 11, 9);
        ends(x, 8, 9, 11);                          // first and third, though second and third have something, too
        for (int t : new int[] {-1, 9, LOW, TOP}) due.is(U, x.known(t, 5), "known(" + t + ", 5)");
        for (int s : new int[] {-1, 2, LOW, TOP}) due.is(O, x.known(0, s), "known(0, " + s + ")");
        x.thing(0, 0);
        due.is(O, x.known(9, 2), "OUTSIDE is ahead of what isn't measured");
    }

    private static void of(int number, SmallMakers x, int... measures) {
        due.is(number, x.thing(3, 0), "thing " + number);
        for (int i = 0; i < measures.length; i += 2) x.measure(number, measures[i], measures[i + 1]);
    }

    private static void ends(SmallMakers x, int thing, int least, int greatest) {
        due.is(least, x.known(thing, 0), "known(" + thing + ", 0)");
        due.is(greatest, x.known(thing, 1), "known(" + thing + ", 1)");
    }

    private static void pairs() {
        due.about("promise 18");
        SmallMakers x = new SmallMakers();
        due.is(0, x.pairs(0, 1, -9999, 9999, 0), "there are no things");
        for (int i = 0; i < 6; i++) x.thing(i % 2, 0);
        due.is(0, x.pairs(0, 1, -9999, 9999, 0), "nothing is known");
        x.measure(0, 100, 2);
        x.measure(1, 90, 1);
        due.is(1, x.pairs(0, 1, 7, 13, 0), "98 less 91 is the least, 102 less 89 the greatest");
        due.is(0, x.pairs(0, 1, 8, 13, 0), "the least is above");
        due.is(0, x.pairs(0, 1, 7, 12, 0), "the greatest is below");
        due.is(1, x.pairs(1, 0, -13, -7, 0), "the other way");
        due.is(-1, x.pairs(1, 0, -13, -7, 10), "thing 0 is of q");
        due.is(0, x.pairs(1, 0, -13, -7, 11), "thing 1 is of p");
        due.is(1, x.pairs(0, 1, 7, 13, 10), "thing 0 is of p");
        due.is(-1, x.pairs(0, 1, 7, 13, 11), "thing 1 is of q");
        for (int i = 2; i < 24; i++) due.is(-1, x.pairs(0, 1, 7, 13, 10 + i), "the partner of thing " + i);
        x.measure(2, 100, 0);
        x.measure(2, 200, 0);
        due.is(1, x.pairs(0, 1, -9999, 9999, 0), "one that quarrels is not known");
        x.measure(1, 500, 1);
        due.is(0, x.pairs(0, 1, -9999, 9999, 0), "no one of q is known any more");
    }

    private static void pairsRefused() {
        SmallMakers x = new SmallMakers();
        for (int p : new int[] {-1, 8, LOW, TOP}) {
            due.is(U, x.pairs(p, 0, 1, 0, 1), "pairs(" + p + ", 0, 1, 0, 1)");
            due.is(U, x.pairs(0, p, 1, 0, 1), "pairs(0, " + p + ", 1, 0, 1)");
        }
        due.is(U, x.pairs(3, 3, 1, 0, 1), "p and q are the same");
        due.is(O, x.pairs(0, 1, 1, 0, 0), "greatest below least");
        due.is(O, x.pairs(0, 1, -10000, 0, 0), "least too low");
        due.is(O, x.pairs(0, 1, 0, 10000, 0), "greatest too high");
        due.is(O, x.pairs(0, 1, 10000, 10000, 0), "least too high");
        due.is(O, x.pairs(0, 1, -10001, -10000, 0), "both too low");
        due.is(O, x.pairs(0, 1, LOW, TOP, 0), "both far off");
        for (int w : new int[] {-1, 1, 9, 34, LOW, TOP}) due.is(O, x.pairs(0, 1, 0, 0, w), "pairs(0, 1, 0, 0, " + w + ")");
        due.is(-1, x.pairs(0, 1, 0, 0, 33), "pairs(0, 1, 0, 0, 33)");
        due.is(new SmallMakers().digest(), x.digest(), "digest() after refusals");
    }

    /** Things 0 to 2 of part 0, 3 to 5 of part 1; which may fit which is told by numbers near each other. */
    private static void pairsTurned() {
        SmallMakers x = row(new int[] {100, 104, 108}, new int[] {106, 102, 98});
        partners(x, 0, 1, -2, 2, 3, 5, 4, 3);       // 108 fits 106 alone, so the others get not the least they fit
        x = row(new int[] {100, 100, 100}, new int[] {100, 100, 100});
        partners(x, 0, 1, 0, 0, 3, 3, 4, 5);
        x = row(new int[] {100, 100, 101}, new int[] {101, 100, 300});
        partners(x, 0, 1, -1, 0, 2, 3, 4, -1);      // 101 less 100 is above: the third fits 101 alone
        x = row(new int[] {100, 105, 110}, new int[] {108, 103, 300});
        partners(x, 0, 1, -3, 2, 2, 4, 3, -1);      // none is last: the first has a partner, so the third has none
        x = row(new int[] {103, 100, 500}, new int[] {102, 101, 100});
        partners(x, 0, 1, -1, 1, 2, 3, 4, -1);
        x = row(new int[] {102, 103, 102}, new int[] {102, 103, 200});
        partners(x, 0, 1, -1, 0, 2, 3, 4, -1);
    }

    private static SmallMakers row(int[] ofZero, int[] ofOne) {
        SmallMakers x = new SmallMakers();
        for (int v : ofZero) x.measure(x.thing(0, 0), v, 0);
        for (int v : ofOne) x.measure(x.thing(1, 0), v, 0);
        return x;
    }

    private static void partners(SmallMakers x, int p, int q, int least, int greatest, int many, int... partner) {
        due.is(many, x.pairs(p, q, least, greatest, 0), "how many pairs");
        for (int i = 0; i < partner.length; i++) {
            due.is(partner[i], x.pairs(p, q, least, greatest, 10 + i), "the partner of thing " + i);
        }
    }

    /** A ladder of twelve and twelve: each fits its own and the next, so that one less turns all of them. */
    private static void pairsOfMany() {
        int[] zero = new int[12], one = new int[12];
        for (int i = 0; i < 12; i++) {
            zero[i] = 100 + 10 * i;
            one[i] = 100 + 10 * (11 - i);
        }
        SmallMakers x = row(zero, one);
        int[] due12 = new int[12];
        for (int i = 0; i < 12; i++) due12[i] = 23 - i;
        partners(x, 0, 1, -10, 0, 12, due12);       // the last fits its own alone, so no one gets the one above its own
        int[] due11 = new int[12];
        for (int i = 0; i < 11; i++) due11[i] = 22 - i;
        due11[11] = -1;
        partners(x, 0, 1, -10, -10, 11, due11);
        x = new SmallMakers();
        for (int i = 0; i < 23; i++) x.measure(x.thing(5, 0), 100, 0);
        x.measure(x.thing(6, 0), 100, 0);
        due.is(1, x.pairs(5, 6, 0, 0, 0), "23 with one");
        due.is(23, x.pairs(5, 6, 0, 0, 10), "the first has it");
        due.is(-1, x.pairs(5, 6, 0, 0, 32), "the last has none");
        due.is(0, x.pairs(6, 5, 0, 0, 33), "one with 23: the least");
    }
}
