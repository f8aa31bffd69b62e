/** Promises 27 to 32: HOURS, OFFERS, ORDERS, what is GIVEN, LATE ones, FORETOLD. */
public final class ShopsTest {
    private static final int U = SmallMakers.UNKNOWN, O = SmallMakers.OUTSIDE, S = SmallMakers.STATE, F = SmallMakers.FULL;
    private static final int LOW = Integer.MIN_VALUE, TOP = Integer.MAX_VALUE;
    private static final Due due = new Due();

    public static void main(String[] args) {
        hours();
        offer();
        order();
        given();
        givenByDay();
        givenLike();
        givenBut();
        givenRefused();
        late();
        foretold();
        due.end();
    }

    private static void hours() {
        due.about("promise 27");
        SmallMakers x = new SmallMakers();
        for (int s = 0; s < 4; s++) {
            due.is(8, x.hours(s, 24), "hours(" + s + ", 24)");
            due.is(24, x.hours(s, 1), "hours(" + s + ", 1)");
        }
        long before = x.digest();
        for (int s : new int[] {-1, 4, LOW, TOP}) due.is(U, x.hours(s, 0), "hours(" + s + ", 0)");
        for (int v : new int[] {-1, 0, 25, LOW, TOP}) due.is(O, x.hours(0, v), "hours(0, " + v + ")");
        due.is(before, x.digest(), "digest() after refusals");
    }

    private static void offer() {
        due.about("promise 28");
        SmallMakers x = new SmallMakers();
        long none = x.digest();
        due.is(0, x.offer(3, 7, 0, -5), "none ahead, none now");
        due.is(none, x.digest(), "digest() without an offer");
        due.is(0, x.offer(3, 7, 999, 99), "offer(3, 7, 999, 99)");
        due.is(999, x.offer(3, 7, 1, 1), "offer(3, 7, 1, 1)");
        due.is(0, x.offer(3, 6, 5, 1), "another part");
        due.is(0, x.offer(2, 7, 5, 1), "another shop");
        long before = x.digest();
        for (int s : new int[] {-1, 4, LOW, TOP}) due.is(U, x.offer(s, 0, -1, 0), "offer(" + s + ", 0, -1, 0)");
        for (int p : new int[] {-1, 8, LOW, TOP}) due.is(U, x.offer(0, p, -1, 0), "offer(0, " + p + ", -1, 0)");
        for (int c : new int[] {-1, 1000, LOW, TOP}) due.is(O, x.offer(0, 0, c, 1), "offer(0, 0, " + c + ", 1)");
        for (int h : new int[] {-1, 0, 100, LOW, TOP}) due.is(O, x.offer(3, 7, 1, h), "offer(3, 7, 1, " + h + ")");
        due.is(before, x.digest(), "digest() after refusals");
        due.is(1, x.offer(3, 7, 0, TOP), "it is offered no more; hours are not looked at");
        due.is(5, x.offer(3, 6, 0, 1), "nor this");
        due.is(5, x.offer(2, 7, 0, LOW), "nor that");
        due.is(none, x.digest(), "HOURS of an offer go with it");
    }

    private static void order() {
        due.about("promise 29");
        SmallMakers x = new SmallMakers();
        long before = x.digest();
        for (int p : new int[] {-1, 8, LOW, TOP}) due.is(U, x.order(p, 0), "order(" + p + ", 0)");
        for (int d : new int[] {-1, 0, 61, LOW, TOP}) due.is(O, x.order(0, d), "order(0, " + d + ")");
        due.is(before, x.digest(), "digest() after refusals");
        int[] day = {1, 60, 30, 1, 60, 2};
        for (int i = 0; i < 6; i++) due.is(i, x.order(7 - i, day[i]), "order " + i);
        before = x.digest();
        due.is(F, x.order(0, 1), "a seventh");
        due.is(O, x.order(0, 61), "OUTSIDE is ahead of FULL");
        due.is(U, x.order(8, 1), "UNKNOWN is ahead of FULL");
        due.is(before, x.digest(), "digest() after refusals");
        due.is(6, x.count(2), "count(2)");
    }

    private static void given() {
        due.about("promise 30");
        SmallMakers x = new SmallMakers();
        due.is(0, x.given(-1, 0), "there are no orders");
        for (int i = 0; i < 6; i++) {
            due.is(-1, x.given(-1, 10 + i), "there is no order " + i);
            due.is(-1, x.given(-1, 20 + i), "there is no order " + i + " that is done");
        }
        x.order(4, 2);
        due.is(-1, x.given(-1, 0), "no one offers it");
        due.is(-1, x.given(-1, 10), "so no shop has it");
        due.is(-1, x.given(-1, 20), "and it is never done");
        x.offer(2, 4, 7, 17);
        due.is(-1, x.given(-1, 0), "17 hours are three days");
        x.hours(2, 9);
        due.is(7, x.given(-1, 0), "17 hours by 9 are two days");
        due.is(2, x.given(-1, 10), "its shop");
        due.is(2, x.given(-1, 20), "its day");
        x.hours(2, 17);
        due.is(1, x.given(-1, 20), "17 hours by 17 are a day");
        x.hours(2, 16);
        due.is(2, x.given(-1, 20), "17 hours by 16 are two");
        due.is(-1, x.given(-1, 11), "there is no second order");
        due.is(-1, x.given(-1, 21), "nor its day");
        x.offer(1, 4, 6, 99);
        due.is(7, x.given(-1, 0), "the cheaper one is too late");
        x.offer(3, 4, 6, 16);
        due.is(3, x.given(-1, 10), "the cheaper one is in time");
    }

    /** One behind the other by DAY, of like ones by number. */
    private static void givenByDay() {
        SmallMakers x = new SmallMakers();
        for (int p = 0; p < 4; p++) x.offer(1, p, 1 + p, 5 + p);
        x.hours(1, 5);
        x.order(3, 9);      // 8 hours, last
        x.order(2, 4);      // 7 hours, behind the 5 and the 6 of days 2 and 4
        x.order(0, 2);      // 5 hours, first
        x.order(1, 4);      // 6 hours, like day 4, but a greater number
        due.is(10, x.given(-1, 0), "COST");
        int[] day = {6, 3, 1, 4};
        for (int i = 0; i < 4; i++) {
            due.is(1, x.given(-1, 10 + i), "the shop of order " + i);
            due.is(day[i], x.given(-1, 20 + i), "the day of order " + i);
        }
        x.order(0, 1);
        due.is(-1, x.given(-1, 0), "5 hours more ahead of all: order 2 is in time, order 3 is done on day 5");
        x.hours(1, 7);
        due.is(11, x.given(-1, 0), "with seven hours a day all are");
        int[] later = {5, 3, 2, 4, 1};
        for (int i = 0; i < 5; i++) due.is(later[i], x.given(-1, 20 + i), "the day of order " + i + " then");
    }

    private static void givenLike() {
        SmallMakers x = new SmallMakers();
        for (int s = 0; s < 4; s++) x.offer(s, 0, 5, 8);
        for (int i = 0; i < 6; i++) x.order(0, 2);
        int[] shop = {0, 0, 1, 1, 2, 2}, day = {1, 2, 1, 2, 1, 2};
        due.is(30, x.given(-1, 0), "COST");
        for (int i = 0; i < 6; i++) {
            due.is(shop[i], x.given(-1, 10 + i), "of like ones the least shop of order " + i);
            due.is(day[i], x.given(-1, 20 + i), "the day of order " + i);
        }
        x.offer(3, 0, 4, 8);
        due.is(28, x.given(-1, 0), "two at the cheaper one");
        int[] then = {0, 0, 1, 1, 3, 3};
        for (int i = 0; i < 6; i++) due.is(then[i], x.given(-1, 10 + i), "the shop of order " + i + " then");
    }

    private static void givenBut() {
        SmallMakers x = new SmallMakers();
        x.offer(0, 0, 5, 8);
        x.offer(3, 0, 9, 8);
        x.order(0, 2);
        x.order(0, 2);
        due.is(10, x.given(-1, 0), "with all");
        due.is(18, x.given(0, 0), "without shop 0");
        due.is(3, x.given(0, 10), "shop 3 has it");
        due.is(10, x.given(1, 0), "without one that has no offers");
        due.is(10, x.given(3, 0), "without shop 3");
        x.order(0, 2);
        due.is(19, x.given(-1, 0), "three with all");
        due.is(3, x.given(-1, 12), "the third is dearer");
        due.is(-1, x.given(0, 0), "three are too many without shop 0");
        due.is(-1, x.given(3, 22), "three are too many without shop 3");
        due.is(5, x.offer(0, 0, 5, 8), "the offers stay");
    }

    private static void givenRefused() {
        SmallMakers x = new SmallMakers();
        long before = x.digest();
        for (int b : new int[] {-2, 4, LOW, TOP}) due.is(U, x.given(b, 1), "given(" + b + ", 1)");
        for (int w : new int[] {-1, 1, 9, 16, 19, 26, LOW, TOP}) due.is(O, x.given(-1, w), "given(-1, " + w + ")");
        due.is(before, x.digest(), "digest() after refusals");
        due.is(0, x.count(7), "refusals are not counted");
        for (int i = 0; i < 40; i++) due.is(0, x.given(i % 5 - 1, 0), "given(), " + i);
        due.is(40, x.count(7), "count(7)");
        before = x.digest();
        due.is(S, x.given(-1, 0), "a 41st");
        due.is(S, x.given(3, 25), "a 42nd");
        due.is(O, x.given(-1, 26), "OUTSIDE is ahead of STATE");
        due.is(U, x.given(4, 0), "UNKNOWN is ahead of STATE");
        due.is(before, x.digest(), "digest() after refusals");
    }

    private static void late() {
        due.about("promise 31");
        SmallMakers x = new SmallMakers();
        long before = x.digest();
        for (int s : new int[] {-1, 4, LOW, TOP}) due.is(U, x.late(s, -1), "late(" + s + ", -1)");
        for (int d : new int[] {-1, 31, LOW, TOP}) due.is(O, x.late(0, d), "late(0, " + d + ")");
        due.is(before, x.digest(), "digest() after refusals");
        for (int i = 1; i <= 16; i++) due.is(i, x.late(3, 2 * (i - 1)), "late " + i);
        before = x.digest();
        due.is(F, x.late(3, 0), "a 17th");
        due.is(O, x.late(3, 31), "OUTSIDE is ahead of FULL");
        due.is(before, x.digest(), "digest() after refusals");
        due.is(1, x.late(2, 30), "another shop");
    }

    private static void foretold() {
        due.about("promise 32");
        SmallMakers x = new SmallMakers();
        due.is(-1, x.foretold(0, 1), "nothing is told");
        x.late(0, 7);
        due.is(7, x.foretold(0, 1), "one");
        due.is(7, x.foretold(0, 100), "one, all");
        x.late(0, 2);
        x.late(0, 30);
        int[][] dues = {{1, 2}, {33, 2}, {34, 7}, {66, 7}, {67, 30}, {100, 30}};
        for (int[] d : dues) due.is(d[1], x.foretold(0, d[0]), "foretold(0, " + d[0] + ")");
        x.late(0, 2);
        due.is(2, x.foretold(0, 50), "two of four are half of them");
        due.is(7, x.foretold(0, 51), "and not more");
        due.is(7, x.foretold(0, 75), "three of four");
        due.is(30, x.foretold(0, 76), "all four");
        due.is(-1, x.foretold(1, 50), "nothing is told of another shop");
        for (int s : new int[] {-1, 4, LOW, TOP}) due.is(U, x.foretold(s, 0), "foretold(" + s + ", 0)");
        for (int h : new int[] {-1, 0, 101, LOW, TOP}) due.is(O, x.foretold(0, h), "foretold(0, " + h + ")");
        due.is(O, x.foretold(1, 0), "OUTSIDE is ahead of nothing told");
    }
}
