/**
 * Promises 27 to 32, each sentence of the document that names a boundary case in a test of its own.
 * What stands behind the colon is the document's sentence; the rest of the promise is in ShopsTest.
 */
public final class EdgesShopsTest {
    private static final int U = SmallMakers.UNKNOWN, O = SmallMakers.OUTSIDE, S = SmallMakers.STATE, F = SmallMakers.FULL;
    private static final Due due = new Due();

    public static void main(String[] args) {
        hours();
        offer();
        order();
        given();
        late();
        foretold();
        due.end();
    }

    private static Run at(String sentence) {
        due.about(sentence);
        return new Run(due);
    }

    // ---- promise 27

    private static void hours() {
        Run r = at("27: UNKNOWN (SHOPS 0 to 3)").is("hours(0, 5)", 8).is("hours(3, 6)", 8).is("hours(0, 5)", 5).is("hours(3, 6)", 6);
        r.is("hours(1, 8)", 8).is("hours(2, 8)", 8).beside("hours(#, 8)", 0, 3, U);
        r = at("27: HOURS a day (1 to 24 .. OUTSIDE").is("hours(2, 1)", 8).beside("hours(2, #)", 1, 24, O).is("hours(2, 24)", 1);
        r.beside("hours(2, #)", 1, 24, O).is("hours(2, 24)", 24);
        r = at("27: UNKNOWN; OUTSIDE .. of several the first as told").refused("hours(4, 25)", U).refused("hours(-1, 0)", U).refused("hours(4, -1)", U);
    }

    // ---- promise 28

    private static void offer() {
        Run r = at("28: UNKNOWN: shop (SHOPS 0 to 3)").is("offer(0, 7, 5, 1)", 0).is("offer(3, 0, 6, 1)", 0).is("offer(0, 7, 5, 1)", 5);
        r.is("offer(3, 0, 6, 1)", 6).same("offer(1, 0, 0, 0)", 0).same("offer(2, 7, 0, 0)", 0);
        r.beside("offer(#, 0, 5, 1)", 0, 3, U).beside("offer(#, 0, 0, 0)", 0, 3, U);
        r = at("28: UNKNOWN: part (PARTS a to h, 0 to 7)").is("offer(1, 0, 5, 1)", 0).is("offer(1, 7, 6, 1)", 0).is("offer(1, 0, 5, 1)", 5);
        r.is("offer(1, 7, 6, 1)", 6).beside("offer(1, #, 5, 1)", 0, 7, U).beside("offer(1, #, 0, 0)", 0, 7, U);
        r = at("28: a COST (1 to 999) .. OUTSIDE: cost").is("offer(1, 2, 1, 1)", 0).beside("offer(1, 2, #, 1)", 0, 999, O);
        r.is("offer(1, 2, 999, 1)", 1).beside("offer(1, 2, #, 1)", 0, 999, O).is("offer(1, 2, 999, 1)", 999);
        r = at("28: HOURS for one (1 to 99) .. OUTSIDE: .. hours").is("offer(1, 2, 5, 1)", 0).beside("offer(1, 2, 6, #)", 1, 99, O);
        r.is("offer(1, 2, 7, 99)", 5).beside("offer(1, 2, 8, #)", 1, 99, O).is("offer(1, 2, 7, 99)", 7);
        offerNoMore();
        r = at("28: UNKNOWN: shop, part; OUTSIDE: cost .., hours .. of several the first as told");
        r.refused("offer(4, 8, 1000, 100)", U).refused("offer(-1, 0, -1, 0)", U).refused("offer(0, 8, 1000, 1)", U).refused("offer(0, -1, 1, 0)", U);
        r.refused("offer(4, 0, 0, 0)", U).refused("offer(0, 0, 1000, 100)", O).refused("offer(0, 0, -1, -1)", O);
    }

    private static void offerNoMore() {
        Run r = at("28: its COST ahead (0: it had none)").is("offer(2, 3, 9, 9)", 0).is("offer(2, 3, 8, 9)", 9).is("offer(2, 3, 0, 9)", 8);
        r.is("offer(2, 3, 0, 9)", 0).is("offer(2, 3, 7, 9)", 0);
        r = at("28: 0: it OFFERS it no more").is("order(3, 60)", 0);
        long none = r.call("digest()");
        r.is("offer(2, 3, 9, 9)", 0).is("offer(2, 3, 0, 1)", 9).is("digest()", none).is("given(-1, 0)", -1);
        for (int hours : new int[] {-1, 0, 1, 99, 100, Integer.MIN_VALUE, Integer.MAX_VALUE}) {
            r = at("28: hours are not looked at (cost 0, hours " + hours + ")");
            none = r.call("digest()");
            r.same("offer(2, 3, 0, " + hours + ")", 0).is("offer(2, 3, 5, 6)", 0).is("offer(2, 3, 0, " + hours + ")", 5).is("digest()", none);
        }
    }

    // ---- promise 29

    private static void order() {
        Run r = at("29: UNKNOWN: part (PARTS a to h, 0 to 7)").is("order(0, 1)", 0).is("order(7, 1)", 1).beside("order(#, 1)", 0, 7, U).is("count(2)", 2);
        r = at("29: a DAY (1 to 60) .. OUTSIDE: day").is("order(0, 1)", 0).is("order(0, 60)", 1).beside("order(0, #)", 1, 60, O).is("count(2)", 2);
        r = at("29: ORDERS (6 at most, numbered) .. FULL");
        for (int i = 0; i < 6; i++) r.is("order(" + i + ", " + (60 - i) + ")", i).is("count(2)", i + 1);
        r.refused("order(0, 1)", F).refused("order(7, 60)", F).is("count(2)", 6);
        r.refused("order(8, 61)", U).refused("order(-1, 1)", U).refused("order(0, 61)", O).refused("order(0, 0)", O);
        r = at("29: UNKNOWN: part; OUTSIDE: day; FULL .. of several the first as told").refused("order(8, 61)", U).refused("order(-1, 0)", U);
    }

    // ---- promise 30

    private static void given() {
        Run r = at("30: UNKNOWN: but (SHOPS 0 to 3, NONE: with all)").is("given(-1, 0)", 0).is("given(0, 0)", 0).is("given(3, 0)", 0);
        r.beside("given(#, 0)", -1, 3, U).beside("given(#, 10)", -1, 3, U).is("count(7)", 3);
        givenWhat();
        givenTimes();
        givenNone();
        givenDays();
        givenTurn();
        givenLike();
        givenBut();
        givenFar();
        r = at("30: UNKNOWN: but; OUTSIDE: what .. of several the first as told").refused("given(4, 1)", U).refused("given(-2, -1)", U).is("count(7)", 0);
    }

    private static void givenWhat() {
        Run r = at("30: OUTSIDE: what (10 to 15, 20 to 25 else)").is("offer(0, 0, 7, 3)", 0);
        for (int i = 0; i < 6; i++) r.is("order(0, 60)", i);
        r.is("given(-1, 0)", 42).is("given(-1, 10)", 0).is("given(-1, 15)", 0).is("given(-1, 20)", 1).is("given(-1, 25)", 3);
        r.beside("given(-1, #)", 0, 25, O);
        for (int what : new int[] {1, 2, 8, 9, 16, 17, 18, 19, 26, 30}) r.refused("given(-1, " + what + ")", O);
        r.is("count(7)", 5);
        r = at("30: NONE: there is no such ORDER").is("offer(0, 0, 7, 3)", 0).is("order(0, 60)", 0).is("given(-1, 10)", 0).is("given(-1, 20)", 1);
        for (int i = 1; i < 6; i++) r.is("given(-1, " + (10 + i) + ")", -1).is("given(-1, " + (20 + i) + ")", -1);
        r = at("30: NONE: there is no such ORDER (none at all: COST 0)").is("given(-1, 0)", 0).is("given(-1, 10)", -1).is("given(-1, 20)", -1);
    }

    private static void givenTimes() {
        Run r = at("30: STATE: it was done 40 times").is("offer(0, 0, 7, 3)", 0).is("order(0, 60)", 0);
        for (int i = 1; i <= 40; i++) r.is("given(" + (i % 4) + ", " + (i % 4 == 0 ? 0 : 10) + ")", i % 4 == 0 ? -1 : 0).is("count(7)", i);
        for (int i = 0; i < 3; i++) r.refused("given(-1, 0)", S);
        r.refused("given(3, 25)", S).is("count(7)", 40);
        r.refused("given(4, 0)", U).refused("given(-2, 26)", U).refused("given(-1, 26)", O).refused("given(0, 1)", O);
        r = at("30: STATE: it was done 40 times (what is refused is not done)");
        for (int i = 0; i < 45; i++) r.is("given(4, 0)", U).is("given(-1, 1)", O);
        r.is("count(7)", 0).is("given(-1, 0)", 0);
    }

    private static void givenNone() {
        Run r = at("30: none: there is none (no SHOP OFFERS it)").is("order(5, 60)", 0).is("offer(0, 4, 1, 1)", 0).is("offer(0, 6, 1, 1)", 0);
        r.is("given(-1, 0)", -1).is("given(-1, 10)", -1).is("given(-1, 20)", -1).is("count(7)", 3);
        r = at("30: none: there is none (one of two ORDERS can't be given)").is("offer(3, 0, 1, 1)", 0).is("order(0, 60)", 0).is("given(-1, 10)", 3);
        r.is("order(1, 60)", 1).is("given(-1, 0)", -1).is("given(-1, 10)", -1).is("given(-1, 20)", -1).is("given(-1, 11)", -1);
        r = at("30: none done later than its DAY (on it, a DAY later)").is("offer(3, 0, 1, 16)", 0).is("order(0, 2)", 0).is("given(-1, 20)", 2);
        r.is("offer(3, 0, 1, 17)", 1).is("given(-1, 0)", -1).is("given(-1, 20)", -1).is("hours(3, 9)", 8).is("given(-1, 20)", 2);
        r = at("30: none done later than its DAY (the first DAY)").is("offer(0, 0, 1, 8)", 0).is("order(0, 1)", 0).is("given(-1, 20)", 1);
        r.is("offer(0, 0, 1, 9)", 1).is("given(-1, 0)", -1);
    }

    private static void givenDays() {
        int[][] dues = {{1, 1, 1}, {7, 8, 1}, {8, 8, 1}, {9, 8, 2}, {16, 8, 2}, {17, 8, 3}, {24, 24, 1}, {25, 24, 2}, {99, 24, 5}, {96, 24, 4},
            {60, 1, 60}, {59, 1, 59}, {99, 2, 50}, {98, 2, 49}};
        for (int[] d : dues) {
            Run r = at("30: on the DAY that all HOURS until then, by HOURS a day, rounded up, come to: " + d[0] + " by " + d[1]);
            r.is("hours(2, " + d[1] + ")", 8).is("offer(2, 5, 9, " + d[0] + ")", 0).is("order(5, 60)", 0).is("given(-1, 20)", d[2]);
        }
        Run r = at("30: all HOURS until then (rounded up together, not one by one)").is("offer(0, 0, 1, 4)", 0).is("hours(0, 3)", 8);
        for (int i = 0; i < 6; i++) r.is("order(0, 60)", i);
        int[] day = {2, 3, 4, 6, 7, 8};
        for (int i = 0; i < 6; i++) r.is("given(-1, " + (20 + i) + ")", day[i]);
    }

    private static void givenTurn() {
        Run r = at("30: by DAY (the later ORDER has the earlier DAY)").is("offer(0, 0, 1, 8)", 0).is("order(0, 3)", 0).is("order(0, 2)", 1).is("order(0, 1)", 2);
        r.is("given(-1, 20)", 3).is("given(-1, 21)", 2).is("given(-1, 22)", 1);
        r = at("30: of like ones by number").is("offer(0, 0, 1, 8)", 0).is("order(0, 9)", 0).is("order(0, 9)", 1).is("order(0, 8)", 2).is("order(0, 9)", 3);
        r.is("given(-1, 20)", 2).is("given(-1, 21)", 3).is("given(-1, 22)", 1).is("given(-1, 23)", 4);
        for (int[] days : new int[][] {{1, 2, 3, 4, 5, 6}, {6, 5, 4, 3, 2, 1}, {4, 2, 6, 1, 5, 3}, {1, 3, 5, 6, 4, 2}, {2, 1, 4, 3, 6, 5}}) {
            r = at("30: by DAY (six, each done on its DAY)").is("offer(0, 0, 1, 8)", 0);
            for (int i = 0; i < 6; i++) r.is("order(0, " + days[i] + ")", i);
            r.is("given(-1, 0)", 6);
            for (int i = 0; i < 6; i++) r.is("given(-1, " + (20 + i) + ")", days[i]);
        }
        givenOthers(0, 1);
        givenOthers(1, 0);
        givenOthers(0, 3);
        givenOthers(3, 0);
    }

    /** Both SHOPS OFFER both PARTS, each another one for less. */
    private static void givenOthers(int first, int second) {
        Run r = at("30: A SHOP makes what is given to it (not what is given to another: " + first + ", " + second + ")");
        r.is("offer(" + first + ", 0, 1, 8)", 0).is("offer(" + first + ", 1, 9, 8)", 0);
        r.is("offer(" + second + ", 0, 9, 8)", 0).is("offer(" + second + ", 1, 1, 8)", 0);
        r.is("order(0, 1)", 0).is("order(1, 1)", 1).is("order(0, 2)", 2).is("order(1, 2)", 3).is("given(-1, 0)", 4);
        int[] shop = {first, second, first, second}, day = {1, 1, 2, 2};
        for (int i = 0; i < 4; i++) r.is("given(-1, " + (10 + i) + ")", shop[i]).is("given(-1, " + (20 + i) + ")", day[i]);
    }

    private static void givenLike() {
        Run r = at("30: of like ones the first ORDER's SHOP is least, then the second's, ..");
        for (int s = 0; s < 4; s++) r.is("offer(" + s + ", 0, 5, 8)", 0);
        for (int i = 0; i < 6; i++) r.is("order(0, 2)", i);
        r.is("given(-1, 0)", 30);
        int[] shop = {0, 0, 1, 1, 2, 2};
        for (int i = 0; i < 6; i++) r.is("given(-1, " + (10 + i) + ")", shop[i]);
        r = at("30: for least COST together (ahead of the first ORDER's SHOP)").is("offer(0, 0, 5, 8)", 0).is("offer(3, 0, 4, 8)", 0);
        r.is("order(0, 1)", 0).is("order(0, 1)", 1).is("given(-1, 0)", 9).is("given(-1, 10)", 0).is("given(-1, 11)", 3);
        r = at("30: for least COST together (not the cheapest for each)").is("offer(0, 0, 1, 8)", 0).is("offer(0, 1, 1, 8)", 0);
        r.is("offer(1, 0, 3, 8)", 0).is("offer(1, 1, 9, 8)", 0).is("order(0, 1)", 0).is("order(1, 1)", 1).is("given(-1, 0)", 4);
        r.is("given(-1, 10)", 1).is("given(-1, 11)", 0);
    }

    private static void givenBut() {
        for (int but = 0; but < 4; but++) {
            Run r = at("30: Without a SHOP: it has no OFFERS (SHOP " + but + ")").is("offer(" + but + ", 0, 2, 1)", 0).is("order(0, 1)", 0);
            r.is("given(" + but + ", 0)", -1).is("given(" + but + ", 10)", -1).is("given(" + but + ", 20)", -1).is("given(-1, 10)", but);
            r.is("given(" + (but + 1) % 4 + ", 10)", but).is("offer(" + (but + 1) % 4 + ", 0, 999, 1)", 0).is("given(" + but + ", 0)", 999);
            r.is("given(" + but + ", 10)", (but + 1) % 4).is("given(-1, 0)", 2);
        }
    }

    private static void givenFar() {
        Run r = at("30: as far as HOURS and DAYS go (6 of 10 HOURS at 1 a day are 60 DAYS)").is("hours(0, 1)", 8).is("offer(0, 0, 999, 10)", 0);
        for (int i = 0; i < 6; i++) r.is("order(0, 60)", i);
        r.is("given(-1, 0)", 5994).is("given(-1, 25)", 60).is("given(-1, 20)", 10).is("offer(0, 0, 999, 11)", 999).is("given(-1, 0)", -1);
        r.is("offer(0, 0, 999, 99)", 999).is("given(-1, 0)", -1).is("hours(0, 24)", 1).is("given(-1, 25)", 25);
    }

    // ---- promise 31

    private static void late() {
        Run r = at("31: UNKNOWN (SHOPS 0 to 3)").is("late(0, 3)", 1).is("late(3, 4)", 1).beside("late(#, 3)", 0, 3, U).is("late(3, 4)", 2);
        r.is("late(1, 0)", 1).is("late(2, 0)", 1);
        r = at("31: by how many days it was late (0 to 30 each .. OUTSIDE").is("late(1, 0)", 1).is("late(1, 30)", 2).beside("late(1, #)", 0, 30, O);
        r.is("foretold(1, 1)", 0).is("foretold(1, 100)", 30);
        r = at("31: 16 at most .. FULL");
        for (int i = 1; i <= 16; i++) r.is("late(2, " + i + ")", i);
        r.refused("late(2, 0)", F).refused("late(2, 30)", F).is("foretold(2, 1)", 1).is("foretold(2, 100)", 16);
        r = at("31: 16 at most (of each SHOP)");
        for (int i = 0; i < 64; i++) r.is("late(" + i % 4 + ", " + i % 31 + ")", i / 4 + 1);
        for (int s = 0; s < 4; s++) r.refused("late(" + s + ", 0)", F);
        r.refused("late(4, 31)", U).refused("late(-1, 0)", U).refused("late(0, 31)", O).refused("late(3, -1)", O);
        r = at("31: UNKNOWN; OUTSIDE; FULL .. of several the first as told").refused("late(4, 31)", U).refused("late(-1, -1)", U);
    }

    // ---- promise 32

    private static void foretold() {
        Run r = at("32: UNKNOWN: shop (SHOPS 0 to 3)").is("late(0, 5)", 1).is("late(3, 6)", 1).same("foretold(0, 50)", 5).same("foretold(3, 50)", 6);
        r.beside("foretold(#, 50)", 0, 3, U);
        r = at("32: for a share (1 to 100 hundredths) .. OUTSIDE: share").is("late(0, 5)", 1).is("late(0, 9)", 2).same("foretold(0, 1)", 5);
        r.same("foretold(0, 100)", 9).beside("foretold(0, #)", 1, 100, O);
        r = at("32: UNKNOWN: shop; OUTSIDE: share .. of several the first as told").refused("foretold(4, 0)", U).refused("foretold(-1, 101)", U);
        r.refused("foretold(0, 0)", O).refused("foretold(0, 101)", O);
        r = at("32: NONE: nothing is told").same("foretold(0, 1)", -1).same("foretold(0, 100)", -1).is("late(1, 4)", 1).same("foretold(0, 50)", -1);
        r = at("32: NONE: nothing is told (late by 0 is told)").is("late(0, 0)", 1).same("foretold(0, 1)", 0).same("foretold(0, 100)", 0);
        r = at("32: by which that share of them at least had come (two: 50, 51)").is("late(0, 9)", 1).is("late(0, 5)", 2);
        r.is("foretold(0, 50)", 5).is("foretold(0, 51)", 9);
        r = at("32: by which that share of them at least had come (three: 33, 34, 66, 67)").is("late(0, 30)", 1).is("late(0, 0)", 2).is("late(0, 7)", 3);
        r.is("foretold(0, 33)", 0).is("foretold(0, 34)", 7).is("foretold(0, 66)", 7).is("foretold(0, 67)", 30);
        r = at("32: by which that share of them at least had come (16: 6, 7, 93, 94)");
        for (int i = 16; i >= 1; i--) r.is("late(0, " + i + ")", 17 - i);
        r.is("foretold(0, 6)", 1).is("foretold(0, 7)", 2).is("foretold(0, 25)", 4).is("foretold(0, 26)", 5).is("foretold(0, 93)", 15);
        r.is("foretold(0, 94)", 16).is("foretold(0, 100)", 16);
        r = at("32: the fewest days of its LATE ones (several alike)").is("late(0, 4)", 1).is("late(0, 4)", 2).is("late(0, 4)", 3).is("late(0, 8)", 4);
        r.is("foretold(0, 1)", 4).is("foretold(0, 75)", 4).is("foretold(0, 76)", 8);
    }
}
