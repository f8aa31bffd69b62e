/**
 * Promises 15 to 18, each sentence of the document that names a boundary case in a test of its own.
 * What stands behind the colon is the document's sentence; the rest of the promise is in ThingsTest.
 */
public final class EdgesThingsTest {
    private static final int U = SmallMakers.UNKNOWN, O = SmallMakers.OUTSIDE, F = SmallMakers.FULL;
    private static final Due due = new Due();

    public static void main(String[] args) {
        thing();
        measure();
        known();
        pairs();
        due.end();
    }

    private static Run at(String sentence) {
        due.about(sentence);
        return new Run(due);
    }

    // ---- promise 15

    private static void thing() {
        Run r = at("15: UNKNOWN: part (PARTS a to h, 0 to 7)").beside("thing(#, 0)", 0, 7, U);
        r.is("thing(0, 0)", 0).is("thing(7, 0)", 1).beside("thing(#, 0)", 0, 7, U).is("count(1)", 2);
        r = at("15: of a LOT (0 to 11) .. OUTSIDE: lot").beside("thing(0, #)", 0, 11, O);
        r.is("thing(0, 0)", 0).is("thing(0, 11)", 1).beside("thing(0, #)", 0, 11, O).is("count(1)", 2);
        r = at("15: THINGS (24 at most, numbered) .. FULL");
        for (int i = 0; i < 24; i++) r.is("thing(" + i % 8 + ", " + i % 12 + ")", i).is("count(1)", i + 1);
        r.refused("thing(0, 0)", F).refused("thing(7, 11)", F).is("count(1)", 24).is("count(8)", 24);
        r.is("known(23, 0)", -1001).refused("known(24, 0)", U);
        r = at("15: UNKNOWN: part; OUTSIDE: lot; FULL .. of several the first as told");
        r.refused("thing(8, 12)", U).refused("thing(-1, -1)", U);
        for (int i = 0; i < 24; i++) r.is("thing(0, 0)", i);
        r.refused("thing(8, 12)", U).refused("thing(8, 0)", U).refused("thing(-1, 0)", U).refused("thing(0, 12)", O).refused("thing(0, -1)", O);
        r = at("15: A THING: its number (new ones lie loose, and have no MEASURE)");
        r.is("thing(3, 4)", 0).is("count(8)", 1).is("count(9)", 0).is("known(0, 0)", -1001).is("known(0, 1)", -1001);
    }

    // ---- promise 16

    private static void measure() {
        Run r = at("16: UNKNOWN: thing").refused("measure(0, 0, 0)", U).is("thing(0, 0)", 0).refused("measure(1, 0, 0)", U);
        r.is("measure(0, 0, 0)", 1).is("thing(0, 0)", 1).is("measure(1, 0, 0)", 1).beside("measure(#, 0, 0)", 0, 1, U);
        r = at("16: UNKNOWN: thing (of 24)");
        for (int i = 0; i < 24; i++) r.is("thing(0, 0)", i);
        r.is("measure(23, 0, 0)", 1).beside("measure(#, 0, 0)", 0, 23, U);
        r = at("16: a number (0 to 1999)").thing(0, 0, 0).beside("measure(0, #, 0)", 0, 1999, O).is("measure(0, 0, 0)", 1);
        r.is("known(0, 1)", 0).thing(1, 0, 0).beside("measure(1, #, 0)", 0, 1999, O).is("measure(1, 1999, 0)", 1).is("known(1, 0)", 1999);
        r = at("16: an ERROR (0 to 99)").thing(0, 0, 0).beside("measure(0, 500, #)", 0, 99, O).is("measure(0, 500, 0)", 1);
        r.is("known(0, 0)", 500).thing(1, 0, 0).beside("measure(1, 500, #)", 0, 99, O).is("measure(1, 500, 99)", 1);
        r.is("known(1, 0)", 401).is("known(1, 1)", 599);
        measuresFull();
        r = at("16: UNKNOWN: thing; OUTSIDE; FULL .. of several the first as told").thing(0, 0, 0, 5, 5, 5, 5, 5, 5);
        r.refused("measure(1, 2000, 100)", U).refused("measure(-1, -1, -1)", U).refused("measure(1, 5, 5)", U);
        r.refused("measure(0, 2000, 5)", O).refused("measure(0, 5, 100)", O).refused("measure(0, -1, -1)", O).refused("measure(0, 5, 5)", F);
    }

    private static void measuresFull() {
        Run r = at("16: MEASURES of one (3 at most) .. FULL").thing(0, 0, 0).thing(1, 0, 0);
        r.is("measure(0, 5, 5)", 1).is("measure(0, 6, 5)", 2).is("measure(0, 7, 5)", 3).refused("measure(0, 0, 99)", F);
        r.is("known(0, 0)", 2).is("known(0, 1)", 10).is("count(9)", 3).is("measure(1, 8, 0)", 1).is("count(9)", 4).refused("measure(0, 7, 5)", F);
        r = at("16: MEASURES of one (3 at most), of each of 24");
        for (int i = 0; i < 24; i++) r.thing(i, 0, 0, 9, 0, 9, 1, 9, 2);
        r.is("count(9)", 72).refused("measure(0, 9, 0)", F).refused("measure(23, 9, 0)", F).is("count(9)", 72);
    }

    // ---- promise 17

    private static void known() {
        Run r = at("17: UNKNOWN").refused("known(0, 0)", U).thing(0, 0, 0, 5, 1).thing(1, 0, 0, 6, 1);
        r.same("known(0, 0)", 4).same("known(1, 0)", 5).beside("known(#, 0)", 0, 1, U).beside("known(#, 1)", 0, 1, U);
        r = at("17: side 0 least, 1 greatest .. OUTSIDE").thing(0, 0, 0, 5, 1);
        r.same("known(0, 0)", 4).same("known(0, 1)", 6).beside("known(0, #)", 0, 1, O);
        r = at("17: UNKNOWN; OUTSIDE .. of several the first as told").thing(0, 0, 0).thing(1, 0, 0, 5, 0, 7, 0);
        r.refused("known(2, 2)", U).refused("known(-1, -1)", U).refused("known(0, 2)", O).refused("known(1, 2)", O).refused("known(1, -1)", O);
        r = at("17: -1001: there is no MEASURE").thing(0, 0, 0).same("known(0, 0)", -1001).same("known(0, 1)", -1001);
        r.is("measure(0, 3, 0)", 1).is("known(0, 0)", 3);
        ends("17: what is from number less ERROR to number and ERROR (one number)", 7, 7, 7, 0);
        ends("17: what is from number less ERROR to number and ERROR (the least there is)", -99, 99, 0, 99);
        ends("17: what is from number less ERROR to number and ERROR (the greatest there is)", 1900, 2098, 1999, 99);
        knownOfTwo();
        knownOfThree();
    }

    private static void ends(String sentence, int least, int greatest, int... measures) {
        at(sentence).thing(0, 0, 0, measures).same("known(0, 0)", least).same("known(0, 1)", greatest);
    }

    private static void quarrel(String sentence, int... measures) {
        ends(sentence, -1002, -1002, measures);
    }

    private static void knownOfTwo() {
        ends("17: of two .. what all have in common (one number: the second above)", 105, 105, 100, 5, 110, 5);
        ends("17: of two .. what all have in common (one number: the second below)", 105, 105, 110, 5, 100, 5);
        quarrel("17: QUARREL: there are measures, but nothing is KNOWN (apart by one: the second above)", 100, 5, 111, 5);
        quarrel("17: QUARREL: there are measures, but nothing is KNOWN (apart by one: the second below)", 111, 5, 100, 5);
        quarrel("17: QUARREL (two unlike without an ERROR)", 7, 0, 8, 0);
        quarrel("17: QUARREL (as far apart as can be)", 0, 0, 1999, 0);
        ends("17: of two .. what all have in common (one within the other)", 99, 101, 100, 50, 100, 1);
        ends("17: of two .. what all have in common (the same)", 99, 101, 100, 1, 100, 1);
        quarrel("17: if that is nothing, and there are three (there are two: neither is taken)", 100, 1, 500, 99);
    }

    private static void knownOfThree() {
        ends("17: of .. three what all have in common (one number)", 105, 105, 100, 5, 110, 5, 105, 0);
        ends("17: of .. three what all have in common (the third is within)", 102, 104, 100, 5, 108, 8, 103, 1);
        ends("17: of .. three what all have in common (not only the first two)", 99, 103, 100, 5, 104, 5, 93, 10);
        ends("17: the first two of them that have something have (first and second)", 99, 105, 100, 5, 104, 5, 90, 8);
        ends("17: the first two .. (first and second, though second and third have, too)", 5, 5, 0, 5, 10, 5, 10, 4);
        ends("17: the first two .. (first and third)", 102, 104, 100, 5, 111, 5, 103, 1);
        ends("17: the first two .. (first and third, though second and third have, too)", 104, 105, 100, 5, 112, 5, 106, 2);
        ends("17: the first two .. (first and third, in one number)", 105, 105, 100, 5, 111, 5, 106, 1);
        ends("17: the first two .. (second and third)", 106, 108, 100, 5, 111, 5, 107, 1);
        ends("17: the first two .. (second and third, in one number)", 116, 116, 100, 5, 111, 5, 117, 1);
        quarrel("17: QUARREL (three: each two are apart by one)", 100, 0, 101, 0, 102, 0);
        quarrel("17: QUARREL (three: as each two are apart)", 100, 5, 111, 5, 122, 5);
    }

    // ---- promise 18

    private static void pairs() {
        pairsUnknown();
        pairsOutside();
        pairsWhat();
        pairsFit();
        pairsKnown();
        pairsMost();
        Run r = at("18: UNKNOWN: p, q, or they are the same; OUTSIDE .. of several the first as told");
        r.refused("pairs(8, 0, 1, 0, 1)", U).refused("pairs(0, 8, 1, 0, 1)", U).refused("pairs(0, 0, 1, 0, 1)", U);
        r.refused("pairs(0, 0, 0, 0, 34)", U).refused("pairs(-1, -1, 0, 0, 0)", U).refused("pairs(8, 8, 10000, 0, 0)", U);
    }

    private static void pairsUnknown() {
        Run r = at("18: UNKNOWN: p (PARTS a to h, 0 to 7)").thing(0, 0, 0, 50, 0).thing(1, 7, 0, 50, 0);
        r.same("pairs(0, 7, 0, 0, 0)", 1).beside("pairs(#, 3, 0, 0, 0)", 0, 7, U);
        r = at("18: UNKNOWN: q (PARTS a to h, 0 to 7)").thing(0, 0, 0, 50, 0).thing(1, 7, 0, 50, 0);
        r.same("pairs(7, 0, 0, 0, 0)", 1).beside("pairs(3, #, 0, 0, 0)", 0, 7, U);
        r = at("18: UNKNOWN: .. or they are the same");
        for (int p = 0; p < 8; p++) r.thing(p, p, 0, 50, 0).refused("pairs(" + p + ", " + p + ", 0, 0, 0)", U);
    }

    private static void pairsOutside() {
        Run r = at("18: least, greatest (-9999 to 9999)").thing(0, 0, 0, 50, 0).thing(1, 1, 0, 50, 0);
        r.same("pairs(0, 1, -9999, 9999, 0)", 1).same("pairs(0, 1, -9999, -9999, 0)", 0).same("pairs(0, 1, 9999, 9999, 0)", 0);
        r = at("18: least .. (-9999 to 9999) .. OUTSIDE: least").beside("pairs(0, 1, #, 9999, 0)", -9999, 9999, O);
        r.refused("pairs(0, 1, 10000, 10000, 0)", O).refused("pairs(0, 1, -10000, -10000, 0)", O).refused("pairs(0, 1, -10000, -9999, 0)", O);
        r = at("18: greatest (-9999 to 9999) .. OUTSIDE: greatest").beside("pairs(0, 1, -9999, #, 0)", -9999, 9999, O);
        r.refused("pairs(0, 1, 9999, 10000, 0)", O).refused("pairs(0, 1, 0, 10000, 0)", O);
        r = at("18: OUTSIDE: .. greatest (not below it)").thing(0, 0, 0, 50, 0).thing(1, 1, 0, 50, 0);
        r.same("pairs(0, 1, 0, 0, 0)", 1).refused("pairs(0, 1, 0, -1, 0)", O).refused("pairs(0, 1, 1, 0, 0)", O);
        r.refused("pairs(0, 1, -9998, -9999, 0)", O).refused("pairs(0, 1, 9999, 9998, 0)", O).refused("pairs(0, 1, 9999, -9999, 0)", O);
        r = at("18: OUTSIDE: least, greatest (as far as ints go)");
        int low = Integer.MIN_VALUE, top = Integer.MAX_VALUE;
        r.refused("pairs(0, 1, " + low + ", " + top + ", 0)", O).refused("pairs(0, 1, " + top + ", " + low + ", 0)", O);
        r.refused("pairs(0, 1, " + low + ", " + low + ", 0)", O).refused("pairs(0, 1, " + top + ", " + top + ", 0)", O);
    }

    private static void pairsWhat() {
        Run r = at("18: OUTSIDE: .. what (10 to 33 else)").same("pairs(0, 1, 0, 0, 0)", 0).same("pairs(0, 1, 0, 0, 10)", -1);
        r.same("pairs(0, 1, 0, 0, 33)", -1).beside("pairs(0, 1, 0, 0, #)", 10, 33, O);
        for (int what : new int[] {-10, -1, 1, 2, 8, 43}) r.refused("pairs(0, 1, 0, 0, " + what + ")", O);
        r = at("18: 10 and i the partner of THING i (the first and the last of 24)").thing(0, 5, 0, 50, 0);
        for (int i = 1; i < 23; i++) r.thing(i, 0, 0);
        r.thing(23, 6, 0, 50, 0).is("pairs(5, 6, 0, 0, 10)", 23).is("pairs(6, 5, 0, 0, 33)", 0);
        r = at("18: NONE: it has none").thing(0, 0, 0, 50, 0).thing(1, 1, 0, 60, 0).is("pairs(0, 1, 0, 0, 10)", -1);
        r = at("18: NONE: .. or is none of p (of q, of another, not there)").thing(0, 0, 0, 50, 0).thing(1, 1, 0, 50, 0).thing(2, 2, 0, 50, 0);
        r.is("pairs(0, 1, 0, 0, 10)", 1).is("pairs(0, 1, 0, 0, 11)", -1).is("pairs(0, 1, 0, 0, 12)", -1).is("pairs(0, 1, 0, 0, 13)", -1);
    }

    private static void pairsFit() {
        Run r = at("18: p's least less q's greatest is the least at least").thing(0, 0, 0, 100, 5).thing(1, 1, 0, 97, 1);
        r.is("pairs(0, 1, -3, 9999, 0)", 1).is("pairs(0, 1, -2, 9999, 0)", 0).is("pairs(0, 1, -4, 9999, 0)", 1);
        r = at("18: p's greatest less q's least the greatest at most").thing(0, 0, 0, 100, 5).thing(1, 1, 0, 97, 1);
        r.is("pairs(0, 1, -9999, 9, 0)", 1).is("pairs(0, 1, -9999, 8, 0)", 0).is("pairs(0, 1, -9999, 10, 0)", 1);
        r = at("18: two FIT (both ends at once)").thing(0, 0, 0, 100, 5).thing(1, 1, 0, 97, 1).is("pairs(0, 1, -3, 9, 0)", 1);
        r = at("18: two FIT (the other way: q's are less)").thing(0, 0, 0, 100, 5).thing(1, 1, 0, 97, 1);
        r.is("pairs(1, 0, -9, 3, 0)", 1).is("pairs(1, 0, -8, 3, 0)", 0).is("pairs(1, 0, -9, 2, 0)", 0);
        r = at("18: two FIT (least and greatest alike)").thing(0, 0, 0, 100, 0).thing(1, 1, 0, 97, 0);
        r.is("pairs(0, 1, 3, 3, 0)", 1).is("pairs(0, 1, 2, 2, 0)", 0).is("pairs(0, 1, 4, 4, 0)", 0);
        r = at("18: two FIT (as far apart as can be)").thing(0, 0, 0, 0, 99).thing(1, 1, 0, 1999, 99);
        r.is("pairs(0, 1, -2197, -1801, 0)", 1).is("pairs(0, 1, -2196, -1801, 0)", 0).is("pairs(0, 1, -2197, -1802, 0)", 0);
        r.is("pairs(1, 0, 1801, 2197, 0)", 1).is("pairs(1, 0, 1802, 2197, 0)", 0).is("pairs(1, 0, 1801, 2196, 0)", 0);
    }

    private static void pairsKnown() {
        Run r = at("18: two FIT, if both are KNOWN (there are no THINGS)").same("pairs(0, 1, -9999, 9999, 0)", 0);
        r = at("18: two FIT, if both are KNOWN (no MEASURE of p's)").thing(0, 0, 0).thing(1, 1, 0, 5, 0).is("pairs(0, 1, -9999, 9999, 0)", 0);
        r = at("18: two FIT, if both are KNOWN (no MEASURE of q's)").thing(0, 0, 0, 5, 0).thing(1, 1, 0).is("pairs(0, 1, -9999, 9999, 0)", 0);
        r = at("18: two FIT, if both are KNOWN (p's QUARREL)").thing(0, 0, 0, 5, 0, 6, 0).thing(1, 1, 0, 5, 0);
        r.is("pairs(0, 1, -9999, 9999, 0)", 0).is("measure(0, 6, 0)", 3).is("pairs(0, 1, -9999, 9999, 0)", 1);
        r = at("18: two FIT, if both are KNOWN (q's QUARREL)").thing(0, 0, 0, 5, 0).thing(1, 1, 0, 5, 0, 6, 0);
        r.is("pairs(0, 1, -9999, 9999, 0)", 0).is("measure(1, 5, 0)", 3).is("pairs(0, 1, -9999, 9999, 0)", 1);
        r = at("18: two FIT, if both are KNOWN (both QUARREL alike)").thing(0, 0, 0, 5, 0, 6, 0).thing(1, 1, 0, 5, 0, 6, 0);
        r.is("pairs(0, 1, -9999, 9999, 0)", 0).is("pairs(0, 1, 0, 0, 0)", 0);
        r = at("18: THINGS of a PART p with those of a PART q (only q's are there)").thing(0, 1, 0, 5, 0).is("pairs(0, 1, 0, 0, 0)", 0);
        r.is("pairs(1, 0, 0, 0, 0)", 0).is("pairs(0, 1, 0, 0, 10)", -1);
    }

    private static void pairsMost() {
        Run r = at("18: MOST PAIRS, each in one at most (many of p, one of q)").thing(0, 0, 0, 5, 0).thing(1, 0, 0, 5, 0).thing(2, 1, 0, 5, 0);
        pairsAre(r, 0, 1, 1, 2, -1);
        r = at("18: MOST PAIRS, each in one at most (one of p, many of q)").thing(0, 0, 0, 5, 0).thing(1, 1, 0, 5, 0).thing(2, 1, 0, 5, 0);
        pairsAre(r, 0, 1, 1, 1);
        r = at("18: the one where p's first THING has the least partner, then the second");
        r.thing(0, 1, 0, 5, 0).thing(1, 1, 0, 5, 0).thing(2, 0, 0, 5, 0).thing(3, 0, 0, 5, 0);
        pairsAre(r, 0, 1, 2, -1, -1, 0, 1);
        r = at("18: MOST PAIRS (ahead of the least partner of the first)");
        r.thing(0, 0, 0, 5, 0).thing(1, 0, 0, 4, 0).thing(2, 1, 0, 4, 0).thing(3, 1, 0, 5, 0);
        r.is("pairs(0, 1, 0, 1, 0)", 2).is("pairs(0, 1, 0, 1, 10)", 3).is("pairs(0, 1, 0, 1, 11)", 2);
        r = at("18: (none is last): the first has one, the second none");
        r.thing(0, 0, 0, 5, 0).thing(1, 0, 0, 5, 0).thing(2, 0, 0, 5, 0).thing(3, 1, 0, 5, 0).thing(4, 1, 0, 5, 0);
        pairsAre(r, 0, 1, 2, 3, 4, -1);
        r = at("18: (none is last): ahead of a lesser partner of a later one");
        r.thing(0, 0, 0, 6, 0).thing(1, 0, 0, 5, 0).thing(2, 1, 0, 5, 0).thing(3, 1, 0, 9, 0);
        r.is("pairs(0, 1, 0, 1, 0)", 1).is("pairs(0, 1, 0, 1, 10)", 2).is("pairs(0, 1, 0, 1, 11)", -1);
        r = at("18: (none is last): of two that FIT the same the later has none, and one behind them has its own");
        r.thing(0, 0, 0, 5, 0).thing(1, 0, 0, 5, 0).thing(2, 0, 0, 9, 0).thing(3, 1, 0, 5, 0).thing(4, 1, 0, 9, 0);
        pairsAre(r, 0, 1, 2, 3, -1, 4);
        pairsTurned();
        pairsOfAll();
    }

    /** Within 0, 1 one FITS its own number and the one below: a row 100, 101, 102, 103 with THINGS of p between. */
    private static void pairsTurned() {
        Run r = at("18: where p's first THING has the least partner (3, not 5, though the third FITS 3, too)");
        r.thing(0, 0, 0, 101, 0).thing(1, 0, 0, 103, 0).thing(2, 0, 0, 102, 0);
        r.thing(3, 1, 0, 101, 0).thing(4, 1, 0, 102, 0).thing(5, 1, 0, 100, 0).thing(6, 1, 0, 103, 0);
        partnersAre(r, 3, 3, 6, 4);
        r = at("18: .. then the second (4, not 6), and so on (the third 7, as 5 is left for the last)");
        r.thing(0, 0, 0, 200, 0).thing(1, 0, 0, 101, 0).thing(2, 0, 0, 103, 0).thing(3, 0, 0, 102, 0);
        r.thing(4, 1, 0, 101, 0).thing(5, 1, 0, 102, 0).thing(6, 1, 0, 100, 0).thing(7, 1, 0, 103, 0).thing(8, 1, 0, 200, 0);
        partnersAre(r, 4, 8, 4, 7, 5);
        r = at("18: .. then the second (the first has what it has, whatever the second could have then)");
        r.thing(0, 0, 0, 102, 0).thing(1, 0, 0, 101, 0).thing(2, 0, 0, 103, 0);
        r.thing(3, 1, 0, 102, 0).thing(4, 1, 0, 100, 0).thing(5, 1, 0, 101, 0).thing(6, 1, 0, 103, 0);
        partnersAre(r, 3, 3, 4, 6);
        r = at("18: MOST PAIRS; the least partner (not 4, which is the second's only one; not 6, though the fourth FITS 5, too)");
        r.thing(0, 0, 0, 100, 0).thing(1, 0, 0, 100, 1).thing(2, 0, 0, 105, 1).thing(3, 0, 0, 103, 1);
        r.thing(4, 1, 0, 100, 0).thing(5, 1, 0, 102, 0).thing(6, 1, 0, 98, 0).thing(7, 1, 0, 104, 0).thing(8, 1, 0, 106, 0);
        int[] partner = {5, 4, 8, 7};
        r.is("pairs(0, 1, -2, 2, 0)", 4);
        for (int i = 0; i < 4; i++) r.is("pairs(0, 1, -2, 2, " + (10 + i) + ")", partner[i]);
    }

    /** Within 0, 1: how many pairs, then the partner of each THING. */
    private static void partnersAre(Run r, int many, int... partner) {
        r.is("pairs(0, 1, 0, 1, 0)", many);
        for (int i = 0; i < partner.length; i++) r.is("pairs(0, 1, 0, 1, " + (10 + i) + ")", partner[i]);
    }

    private static void pairsOfAll() {
        Run r = at("18: MOST PAIRS (all 24 THINGS, each FITS each)");
        for (int i = 0; i < 24; i++) r.thing(i, i % 2, 0, 5, 0);
        r.is("pairs(0, 1, 0, 0, 0)", 12);
        for (int i = 0; i < 24; i++) r.is("pairs(0, 1, 0, 0, " + (10 + i) + ")", i % 2 == 0 ? i + 1 : -1);
        r = at("18: MOST PAIRS (all 24 THINGS, no two FIT)");
        for (int i = 0; i < 24; i++) r.thing(i, i % 2, 0, 5 + i, 0);
        r.is("pairs(0, 1, 0, 0, 0)", 0).is("pairs(0, 1, 0, 0, 10)", -1).is("pairs(0, 1, -1, -1, 0)", 12).is("pairs(0, 1, 1, 1, 0)", 11);
    }

    /** Within 0, 0: how many pairs, then the partner of each THING. */
    private static void pairsAre(Run r, int p, int q, int many, int... partner) {
        String call = "pairs(" + p + ", " + q + ", 0, 0, ";
        r.is(call + "0)", many);
        for (int i = 0; i < partner.length; i++) r.is(call + (10 + i) + ")", partner[i]);
    }
}
