/**
 * Promises 33 to 39, each sentence of the document that names a boundary case in a test of its own.
 * What stands behind the colon is the document's sentence; the rest of the promise is in LooksTest.
 */
public final class EdgesLooksTest {
    private static final int U = SmallMakers.UNKNOWN, O = SmallMakers.OUTSIDE, F = SmallMakers.FULL;
    private static final Due due = new Due();

    public static void main(String[] args) {
        look();
        finds();
        asked();
        enough();
        made();
        unmade();
        drift();
        due.end();
    }

    private static Run at(String sentence) {
        due.about(sentence);
        return new Run(due);
    }

    // ---- promise 33

    private static void look() {
        Run r = at("33: a COST (1 to 999) .. OUTSIDE").beside("look(#)", 1, 999, O).is("look(1)", 0).is("look(999)", 1).beside("look(#)", 1, 999, O);
        r.is("count(3)", 2).is("finds(1, 0, 9)", 0).is("asked(0, 9)", 0).is("enough(1)", 999);
        r = at("33: LOOKS (6 at most, numbered) .. FULL");
        for (int i = 0; i < 6; i++) r.is("look(7)", i).is("count(3)", i + 1);
        r.refused("look(7)", F).refused("look(1)", F).is("count(3)", 6);
        r = at("33: OUTSIDE; FULL .. of several the first as told");
        for (int i = 0; i < 6; i++) r.is("look(7)", i);
        r.refused("look(0)", O).refused("look(1000)", O).refused("look(-1)", O);
    }

    // ---- promise 34

    private static void finds() {
        Run r = at("34: UNKNOWN: look (there is none)").beside("finds(#, 0, 1)", 0, -1, U);
        for (int n = 0; n < 6; n++) {
            r = at("34: UNKNOWN: look (of " + (n + 1) + ")");
            for (int i = 0; i <= n; i++) r.is("look(7)", i);
            r.is("finds(0, 3, 5)", 0).is("finds(" + n + ", 0, 6)", 0).is("finds(0, 3, 5)", 5).is("finds(" + n + ", 0, 6)", 6);
            r.beside("finds(#, 0, 1)", 0, n, U);
        }
        r = at("34: UNKNOWN: .. fault (FAULT 0 to 3)").is("look(7)", 0).is("look(7)", 1).is("finds(0, 0, 5)", 0).is("finds(0, 3, 6)", 0);
        r.is("finds(0, 0, 5)", 5).is("finds(0, 3, 6)", 6).is("finds(1, 0, 0)", 0).beside("finds(0, #, 1)", 0, 3, U);
        r = at("34: by how many hundredths it FINDS it (0 to 99 .. OUTSIDE").is("look(7)", 0).is("finds(0, 2, 99)", 0);
        r.beside("finds(0, 2, #)", 0, 99, O).is("finds(0, 2, 0)", 99).beside("finds(0, 2, #)", 0, 99, O).is("finds(0, 2, 0)", 0);
        r = at("34: UNKNOWN: look, fault; OUTSIDE .. of several the first as told").is("look(7)", 0);
        r.refused("finds(1, 4, 100)", U).refused("finds(-1, 0, -1)", U).refused("finds(1, 0, 100)", U).refused("finds(0, 4, 100)", U);
        r.refused("finds(0, -1, -1)", U);
    }

    // ---- promise 35

    private static void asked() {
        Run r = at("35: UNKNOWN (FAULT 0 to 3)").is("asked(0, 5)", 0).is("asked(3, 6)", 0).is("asked(0, 5)", 5).is("asked(3, 6)", 6);
        r.is("asked(1, 0)", 0).is("asked(2, 0)", 0).beside("asked(#, 1)", 0, 3, U);
        r = at("35: ASKED of a FAULT: hundredths (0 to 99 .. OUTSIDE").is("asked(1, 99)", 0).beside("asked(1, #)", 0, 99, O).is("asked(1, 0)", 99);
        r.beside("asked(1, #)", 0, 99, O).is("asked(1, 0)", 0);
        r = at("35: UNKNOWN; OUTSIDE .. of several the first as told").refused("asked(4, 100)", U).refused("asked(-1, -1)", U);
    }

    // ---- promise 36

    private static void enough() {
        Run r = at("36: what = 0 the set, 1 its COST .. OUTSIDE").same("enough(0)", 0).same("enough(1)", 0).beside("enough(#)", 0, 1, O);
        r.is("look(7)", 0).is("finds(0, 0, 50)", 0).is("asked(0, 50)", 0).same("enough(0)", 1).same("enough(1)", 7).beside("enough(#)", 0, 1, O);
        r.is("asked(0, 51)", 50).same("enough(0)", -1).beside("enough(#)", 0, 1, O);
        r = at("36: NONE: there is none (there are no LOOKS)").is("asked(3, 1)", 0).same("enough(0)", -1).same("enough(1)", -1);
        r = at("36: FINDS each FAULT as ASKED at least (0 is ASKED: the empty set)").is("look(7)", 0).is("finds(0, 0, 99)", 0).same("enough(0)", 0);
        r.same("enough(1)", 0);
        for (int f = 0; f < 4; f++) {
            r = at("36: FINDS each FAULT as ASKED at least (FAULT " + f + " is ASKED alone)").is("look(7)", 0).is("finds(0, " + f + ", 30)", 0);
            r.is("asked(" + f + ", 31)", 0).is("enough(0)", -1).is("asked(" + f + ", 30)", 31).is("enough(0)", 1).is("asked(" + f + ", 29)", 30);
            r.is("enough(0)", 1).is("asked(" + (f + 1) % 4 + ", 1)", 0).is("enough(0)", -1);
        }
        enoughExact();
        enoughLike();
        enoughFar();
    }

    /** LOOKS with COST 1 each, of FAULT 0; ASKED so; the set that is ENOUGH. */
    private static void enoughIs(String sentence, int asked, int set, int... finds) {
        Run r = at(sentence).is("asked(0, " + asked + ")", 0);
        for (int i = 0; i < finds.length; i++) r.is("look(1)", i).is("finds(" + i + ", 0, " + finds[i] + ")", 0);
        r.same("enough(0)", set).same("enough(1)", set == -1 ? -1 : Integer.bitCount(set));
    }

    private static void enoughExact() {
        int[][] dues = {{10, 10, 19}, {10, 20, 28}, {20, 25, 40}, {8, 25, 31}, {25, 56, 67}, {50, 36, 68}, {90, 90, 99}, {50, 50, 75}, {1, 0, 1}};
        for (int[] d : dues) {
            String two = " (" + d[0] + " and " + d[1] + " come to " + d[2] + ")";
            enoughIs("36: as ASKED at least: exactly" + two, d[2], d[1] == 0 ? 1 : 3, d[0], d[1]);
            if (d[2] < 99) enoughIs("36: as ASKED at least: one hundredth more is ASKED" + two, d[2] + 1, -1, d[0], d[1]);
        }
        enoughIs("36: as ASKED at least (lacks 0.0300000000202)", 97, -1, 69, 69, 39, 21, 21, 18);
        enoughIs("36: as ASKED at least (lacks 0.0199999999301)", 98, 63, 77, 59, 41, 39, 29, 17);
        enoughIs("36: with what lacks to 1 of the product (99 of six: nearly 1)", 99, 1, 99, 99, 99, 99, 99, 99);
        enoughIs("36: with what lacks to 1 of the product (1 - 0.47 to the 6th)", 98, 63, 53, 53, 53, 53, 53, 53);
        enoughIs("36: NONE: there is none (not even with all six)", 99, -1, 53, 53, 53, 53, 53, 53);
    }

    private static void enoughLike() {
        Run r = at("36: of least COST (ahead of fewest, ahead of least bits)").is("look(10)", 0).is("look(4)", 1).is("look(5)", 2).is("asked(0, 75)", 0);
        r.is("finds(0, 0, 75)", 0).is("finds(1, 0, 50)", 0).is("finds(2, 0, 50)", 0).is("enough(0)", 6).is("enough(1)", 9);
        r = at("36: of least COST (of two, though one other is fewer)").is("look(4)", 0).is("look(5)", 1).is("look(10)", 2).is("asked(0, 75)", 0);
        r.is("finds(2, 0, 75)", 0).is("finds(0, 0, 50)", 0).is("finds(1, 0, 50)", 0).is("enough(0)", 3).is("enough(1)", 9);
        r = at("36: of like ones of fewest (ahead of least bits)").is("look(4)", 0).is("look(5)", 1).is("look(9)", 2).is("asked(0, 75)", 0);
        r.is("finds(2, 0, 75)", 0).is("finds(0, 0, 50)", 0).is("finds(1, 0, 50)", 0).is("enough(0)", 4).is("enough(1)", 9);
        r = at("36: of like ones of fewest (which has the least bits, too)").is("look(9)", 0).is("look(4)", 1).is("look(5)", 2).is("asked(0, 75)", 0);
        r.is("finds(0, 0, 75)", 0).is("finds(1, 0, 50)", 0).is("finds(2, 0, 50)", 0).is("enough(0)", 1);
        enoughIs("36: of like ones of least bits (one of six)", 40, 1, 40, 40, 40, 40, 40, 40);
        enoughIs("36: of like ones of least bits (two of six: 0 and 1)", 60, 3, 40, 40, 40, 40, 40, 40);
        enoughIs("36: of like ones of least bits (1 and 2, not 0 and 5)", 75, 6, 40, 50, 50, 0, 0, 59);
        enoughIs("36: of like ones of least bits (0 and 3, not 1 and 4)", 75, 9, 50, 40, 40, 50, 59, 0);
    }

    private static void enoughFar() {
        Run r = at("36: the set (of all six), its COST (as much as can be)").is("asked(0, 98)", 0);
        for (int i = 0; i < 6; i++) r.is("look(999)", i).is("finds(" + i + ", 0, 53)", 0);
        r.same("enough(0)", 63).same("enough(1)", 5994);
        r = at("36: the set (the last of six)").is("asked(3, 99)", 0);
        for (int i = 0; i < 6; i++) r.is("look(" + (999 - i) + ")", i);
        r.is("finds(5, 3, 99)", 0).same("enough(0)", 32).same("enough(1)", 994);
        r = at("36: FINDS each FAULT (each by another LOOK)").is("look(1)", 0).is("look(2)", 1).is("look(4)", 2).is("look(8)", 3);
        for (int f = 0; f < 4; f++) r.is("finds(" + (3 - f) + ", " + f + ", 10)", 0).is("asked(" + f + ", 10)", 0).is("enough(1)", 16 - (8 >> f));
    }

    // ---- promise 37

    private static void made() {
        Run r = at("37: A ROW of what a machine made (.. 0 to 99 each) .. OUTSIDE").beside("made(#)", 0, 99, O).is("made(0)", 1).is("made(99)", 2);
        r.beside("made(#)", 0, 99, O).is("count(4)", 2);
        r = at("37: A ROW (12 at most ..) .. FULL");
        for (int i = 1; i <= 12; i++) r.is("made(" + i + ")", i).is("count(4)", i);
        r.refused("made(0)", F).refused("made(99)", F).is("count(4)", 12);
        r.refused("made(100)", O).refused("made(-1)", O).is("unmade()", 12).is("made(5)", 1);
    }

    // ---- promise 38

    private static void unmade() {
        Run r = at("38: The ROW is empty: how many it had (none)").same("unmade()", 0);
        long empty = r.call("digest()");
        due.about("38: The ROW is empty: how many it had (one)");
        r.is("made(7)", 1).is("unmade()", 1).is("digest()", empty).same("unmade()", 0);
        r = at("38: The ROW is empty: how many it had (12, as many as can be)");
        for (int i = 1; i <= 12; i++) r.is("made(" + i + ")", i);
        r.is("unmade()", 12).is("digest()", empty).is("count(4)", 0).refused("drift(1, 0)", O).is("made(3)", 1).is("made(4)", 2).is("drift(1, 1)", 2);
    }

    // ---- promise 39

    private static void drift() {
        Run r = at("39: DRIFT behind k of n (1 to n less 1) .. OUTSIDE: k (n is 0)").beside("drift(#, 0)", 1, -1, O).refused("drift(0, 0)", O);
        for (int n = 1; n <= 12; n++) {
            r = at("39: DRIFT behind k of n (1 to n less 1) .. OUTSIDE: k (n is " + n + ")");
            for (int i = 1; i <= n; i++) r.is("made(" + 8 * (i - 1) + ")", i);
            r.refused("drift(0, 0)", O).refused("drift(0, 1)", O).beside("drift(#, 0)", 1, n - 1, O).beside("drift(#, 1)", 1, n - 1, O);
            if (n == 1) r.refused("drift(1, 0)", O);
            else r.same("drift(1, 1)", n).same("drift(" + (n - 1) + ", 1)", n).same("drift(1, 0)", 2);
        }
        r = at("39: what = 0 how many ways, 1 all ways .. OUTSIDE: .. what").is("made(1)", 1).is("made(2)", 2).same("drift(1, 0)", 2);
        r.same("drift(1, 1)", 2).beside("drift(1, #)", 0, 1, O).refused("drift(2, 2)", O).refused("drift(0, -1)", O);
        waysAre("39: by as much at least (as much: all alike)", 1, 4, 5, 5, 5, 5);
        waysAre("39: by as much at least (the first is as is due: all)", 1, 3, 5, 4, 6);
        waysAre("39: by as much at least (on the other side by as much)", 1, 2, 9, 1, 5, 5, 5);
        waysAre("39: by as much at least (on the other side by one less)", 1, 1, 8, 3, 5, 4);
        waysAre("39: what is due (k by n of all): 7 thirds, not 2", 1, 1, 1, 3, 3);
        waysAre("39: what is due (k by n of all): 8 thirds, not 3", 1, 1, 4, 2, 2);
        waysAre("39: what is due (k by n of all): 28 thirds", 2, 1, 3, 3, 8);
        waysAre("39: 0 to 99 each (as far off as can be, below)", 6, 2, 0, 0, 0, 0, 0, 0, 99, 99, 99, 99, 99, 99);
        waysAre("39: 0 to 99 each (as far off as can be, above)", 6, 2, 99, 99, 99, 99, 99, 99, 0, 0, 0, 0, 0, 0);
        waysAre("39: 0 to 99 each (all 0)", 5, 792, 0, 0, 0, 0, 0, 0, 0, 0, 0, 0, 0, 0);
        allWays();
    }

    private static void waysAre(String sentence, int k, int ways, int... row) {
        Run r = at(sentence);
        for (int i = 0; i < row.length; i++) r.is("made(" + row[i] + ")", i + 1);
        r.same("drift(" + k + ", 0)", ways);
    }

    private static void allWays() {
        Run r = at("39: of all ways to choose k of n (k of 12)");
        for (int i = 1; i <= 12; i++) r.is("made(" + (100 - i) + ")", i);
        int[] ways = {12, 66, 220, 495, 792, 924, 792, 495, 220, 66, 12};
        for (int k = 1; k <= 11; k++) r.same("drift(" + k + ", 1)", ways[k - 1]).same("drift(" + k + ", 0)", 2);
    }
}
