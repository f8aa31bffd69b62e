/**
 * Promises 19 to 26, each sentence of the document that names a boundary case in a test of its own.
 * What stands behind the colon is the document's sentence; the rest of the promise is in MachinesTest.
 */
public final class EdgesMachinesTest {
    private static final int U = SmallMakers.UNKNOWN, O = SmallMakers.OUTSIDE;
    private static final Due due = new Due();

    public static void main(String[] args) {
        put();
        in();
        right();
        all();
        swap();
        told();
        blamed();
        called();
        due.end();
    }

    private static Run at(String sentence) {
        due.about(sentence);
        return new Run(due);
    }

    /** A THING, numbered so, goes into a MACHINE. */
    private static Run into(Run r, int machine, int number, int part, int lot, int... measures) {
        return r.thing(number, part, lot, measures).is("put(" + machine + ", " + number + ")", -1);
    }

    // ---- promise 19

    private static void put() {
        Run r = at("19: UNKNOWN: machine (MACHINES 0 to 5)").thing(0, 0, 0).beside("put(#, 0)", 0, 5, U);
        r.is("put(0, 0)", -1).is("in(0, 0)", 0).is("put(5, 0)", -1).is("in(5, 0)", 0).beside("put(#, 0)", 0, 5, U);
        r = at("19: UNKNOWN: thing (there is none)").beside("put(0, #)", 0, -1, U);
        r = at("19: UNKNOWN: thing (the last of two)").thing(0, 0, 0).thing(1, 0, 0).is("put(0, 1)", -1).beside("put(0, #)", 0, 1, U);
        r.refused("put(6, 2)", U).is("in(0, 0)", 1);
        r = at("19: UNKNOWN: thing (the last of 24)");
        for (int i = 0; i < 24; i++) r.thing(i, 7, 0);
        r.is("put(5, 23)", -1).beside("put(5, #)", 0, 23, U).is("in(5, 7)", 23);
        r = at("19: which one of its PART was there, and lies loose now (NONE: none)").thing(0, 3, 0).thing(1, 3, 0);
        r.is("put(2, 0)", -1).is("count(8)", 1).is("put(2, 1)", 0).is("count(8)", 1).is("in(2, 3)", 1).is("put(2, 0)", 1).is("in(2, 3)", 0);
        r = at("19: which one of its PART was there (one of another PART stays)").thing(0, 3, 0).thing(1, 4, 0).is("put(2, 0)", -1);
        r.is("put(2, 1)", -1).is("in(2, 3)", 0).is("in(2, 4)", 1).is("count(8)", 0);
        r = at("19: (out of that where it was)").thing(0, 3, 0).is("put(0, 0)", -1).is("put(5, 0)", -1).is("in(0, 3)", -1).is("in(5, 3)", 0);
        r.is("count(8)", 0);
        r = at("19: (out of that where it was: what was where it goes lies loose)").thing(0, 3, 0).thing(1, 3, 0).is("put(0, 0)", -1);
        r.is("put(1, 1)", -1).is("put(1, 0)", 1).is("in(0, 3)", -1).is("in(1, 3)", 0).is("count(8)", 1).is("put(0, 1)", -1).is("count(8)", 0);
        r = at("19: is put into a MACHINE (where it is: none but it was there)").thing(0, 3, 0).is("put(4, 0)", -1).same("put(4, 0)", -1);
        r.is("in(4, 3)", 0).is("count(8)", 0);
        putAll();
    }

    private static void putAll() {
        Run r = at("19: of each PART one THING or none (24 in three MACHINES, of all PARTS)");
        for (int i = 0; i < 24; i++) into(r, i / 8, i, i % 8, 0);
        r.is("count(8)", 0);
        for (int i = 0; i < 24; i++) r.is("in(" + i / 8 + ", " + i % 8 + ")", i);
        for (int p = 0; p < 8; p++) r.is("in(3, " + p + ")", -1);
    }

    // ---- promise 20

    private static void in() {
        Run r = at("20: UNKNOWN (MACHINES 0 to 5)").thing(0, 0, 0).same("in(0, 0)", -1).same("in(5, 0)", -1).beside("in(#, 0)", 0, 5, U);
        r = at("20: UNKNOWN (PARTS a to h, 0 to 7)").thing(0, 7, 0).is("put(0, 0)", -1).same("in(0, 0)", -1).same("in(0, 7)", 0);
        r.beside("in(0, #)", 0, 7, U).refused("in(6, 8)", U);
        r = at("20: NONE (of the PART, or in the MACHINE beside)").thing(0, 3, 0).is("put(2, 0)", -1).same("in(2, 3)", 0);
        r.is("in(2, 2)", -1).is("in(2, 4)", -1).is("in(1, 3)", -1).is("in(3, 3)", -1);
    }

    // ---- promise 21

    private static void right() {
        Run r = at("21: UNKNOWN (MACHINES 0 to 5)").chain("+a=0~9", 0).same("right(0, 0)", 0).same("right(5, 0)", 0).beside("right(#, 0)", 0, 5, U);
        r = at("21: UNKNOWN (CHAINS)").beside("right(0, #)", 0, -1, U);
        for (int n = 0; n < 6; n++) r.chain("+a=0~9", n).same("right(0, " + n + ")", 0).refused("right(0, " + (n + 1) + ")", U);
        r.beside("right(0, #)", 0, 5, U).refused("right(6, 6)", U);
        rightThere();
        rightBounds("+a", 95, 105);
        rightBounds("-a", -105, -95);
        rightBounds("+a-b", -3, 9);
        rightBounds("-b+a", -3, 9);
        rightBounds("+a-a", -10, 10);
        rightBounds("+a+a+a-b-b-b", -9, 27);
        rightFar();
    }

    /** PART a's THING is 95 to 105, b's 96 to 98. */
    private static void rightBounds(String terms, int least, int greatest) {
        Run r = at("21: the sum of least ones .. is its least at least, that of greatest ones its greatest at most (" + terms + ")");
        r.chain(terms + "=" + least + "~" + greatest, 0).chain(terms + "=" + (least + 1) + "~" + greatest, 1);
        r.chain(terms + "=" + least + "~" + (greatest - 1), 2).chain(terms + "=" + (least - 1) + "~" + (greatest + 1), 3);
        into(r, 0, 0, 0, 0, 100, 5);
        into(r, 0, 1, 1, 0, 97, 1);
        r.same("right(0, 0)", 1).same("right(0, 1)", 0).same("right(0, 2)", 0).same("right(0, 3)", 1);
    }

    private static void rightThere() {
        Run r = at("21: if THINGS of all its TERMS are there (the first is not, the last is not)").chain("+a+b=0~9", 0);
        r.thing(0, 0, 0, 1, 0).thing(1, 1, 0, 1, 0).is("right(0, 0)", 0).is("put(0, 0)", -1).is("right(0, 0)", 0).is("put(0, 1)", -1);
        r.is("right(0, 0)", 1).is("put(1, 0)", -1).is("right(0, 0)", 0).is("right(1, 0)", 0);
        r = at("21: if THINGS of all its TERMS are there (0 is within the bounds, but nothing is there)").chain("+a-a=-9~9", 0).is("right(0, 0)", 0);
        r = at("21: and KNOWN (no MEASURE)").chain("+a=-9999~9999", 0);
        into(r, 0, 0, 0, 0).is("right(0, 0)", 0).is("measure(0, 1, 0)", 1).is("right(0, 0)", 1);
        r = at("21: and KNOWN (a QUARREL)").chain("+a=-9999~9999", 0);
        into(r, 0, 0, 0, 0, 1, 0, 2, 0).is("right(0, 0)", 0).is("measure(0, 2, 0)", 3).is("right(0, 0)", 1);
        r = at("21: and KNOWN (one that is no TERM of it need not be)").chain("+a=0~9", 0);
        into(r, 0, 0, 0, 0, 1, 0);
        into(r, 0, 1, 1, 0).is("right(0, 0)", 1);
    }

    private static void rightFar() {
        Run r = at("21: sums as far as they go").chain("+a+a+a+a+a+a=-594~9999", 0).chain("-b-b-b-b-b-b=-9999~-9999", 1);
        r.chain("+a+a+a+a+a+a=-593~9999", 2).chain("+b+b+b+b+b+b=-9999~9999", 3).chain("+b+b+b+b=7600~8392", 4).chain("+b+b+b+b=7600~8391", 5);
        into(r, 0, 0, 0, 0, 0, 99);
        into(r, 0, 1, 1, 0, 1999, 99);
        r.is("right(0, 0)", 1).is("right(0, 1)", 0).is("right(0, 2)", 0).is("right(0, 3)", 0).is("right(0, 4)", 1).is("right(0, 5)", 0);
    }

    // ---- promise 22

    private static void all() {
        Run r = at("22: A MACHINE is RIGHT, if all CHAINS are (there are no CHAINS)").same("all()", 63);
        r = at("22: MACHINES that are RIGHT, as bits (none)").chain("+a=0~9", 0).same("all()", 0);
        r = at("22: MACHINES that are RIGHT, as bits (the first, the last)").chain("+a=0~9", 0).thing(0, 0, 0, 5, 0);
        for (int m = 0; m < 6; m++) r.is("put(" + m + ", 0)", -1).same("all()", 1 << m);
        r = at("22: MACHINES that are RIGHT, as bits (all)").chain("+a=0~9", 0);
        for (int m = 0; m < 6; m++) into(r, m, m, 0, 0, m, 0).is("all()", (2 << m) - 1);
        r = at("22: if all CHAINS are (the last of six is not)");
        for (int n = 0; n < 5; n++) r.chain("+a=0~9", n);
        into(r, 0, 0, 0, 0, 5, 0).is("all()", 1).chain("+a=6~9", 5).is("all()", 0);
        r = at("22: if all CHAINS are (the first of two is not)").chain("+a=6~9", 0).chain("+a=0~9", 1);
        into(r, 0, 0, 0, 0, 5, 0).is("all()", 0);
    }

    // ---- promise 23

    private static void swap() {
        Run r = at("23: what = 0 the PART, 1 the MACHINE, 2 the other one .. OUTSIDE").beside("swap(#)", 0, 2, O);
        r.same("swap(0)", -1).same("swap(1)", -1).same("swap(2)", -1);
        swapNone();
        swapIs("23: SWAPPED (the first: PART a, MACHINES 0 and 1)", two(0, 0, 1), 0, 0, 1);
        swapIs("23: SWAPPED (the last: PART h, MACHINES 4 and 5)", two(7, 4, 5), 7, 4, 5);
        swapIs("23: SWAPPED (MACHINES 0 and 5)", two(3, 0, 5), 3, 0, 5);
        swapIs("23: the least MACHINE, then the other one (whichever was put together first)", two(3, 5, 2), 3, 2, 5);
        swapLeast();
        swapStays();
    }

    private static void swapIs(String sentence, Run r, int part, int machine, int other) {
        due.about(sentence);
        r.same("swap(0)", part).same("swap(1)", machine).same("swap(2)", other);
    }

    /** PART p's THINGS of two MACHINES must change places, and no others may: two more PARTS there are as each other. */
    private static Run two(int p, int one, int other) {
        int q = (p + 1) % 8, as = (p + 2) % 8;
        Run r = new Run(due).chain("+" + (char) ('a' + p) + "-" + (char) ('a' + q) + "=0~0", 0);
        r.chain("+" + (char) ('a' + q) + "-" + (char) ('a' + as) + "=0~0", 1);
        into(r, one, 0, p, 0, 10, 0);
        into(r, one, 1, q, 0, 20, 0);
        into(r, one, 2, as, 0, 20, 0);
        into(r, other, 3, p, 0, 20, 0);
        into(r, other, 4, q, 0, 10, 0);
        return into(r, other, 5, as, 0, 10, 0);
    }

    private static void swapNone() {
        Run r = at("23: NONE: there is no such swap (no CHAINS: all are RIGHT)");
        into(r, 0, 0, 0, 0, 1, 0);
        into(r, 1, 1, 0, 0, 2, 0).same("swap(0)", -1).same("swap(1)", -1).same("swap(2)", -1);
        r = at("23: NONE: there is no such swap (nothing is in the MACHINES)").chain("+a=0~9", 0).same("swap(0)", -1);
        r = at("23: NONE: there is no such swap (one MACHINE has a THING, no other has)").chain("+a-b=0~0", 0);
        into(r, 0, 0, 0, 0, 1, 0);
        into(r, 0, 1, 1, 0, 2, 0).thing(2, 0, 0, 2, 0).same("swap(0)", -1).same("swap(1)", -1).same("swap(2)", -1);
        r = at("23: not both RIGHT (all are, and are when they change places)").chain("+a=0~9", 0);
        for (int m = 0; m < 6; m++) into(r, m, m, 0, 0, m, 0).same("swap(0)", -1);
        r.same("all()", 63);
        r = at("23: not both RIGHT (the last two are, and are when they change places)").chain("+a=0~9", 0);
        into(r, 4, 0, 0, 0, 1, 0);
        into(r, 5, 1, 0, 0, 2, 0).same("all()", 48).same("swap(0)", -1);
        r = at("23: that are both RIGHT when these change places (the first is, the other is not)").chain("+a-b=0~0", 0);
        into(r, 0, 0, 0, 0, 1, 0);
        into(r, 0, 1, 1, 0, 2, 0);
        into(r, 1, 2, 0, 0, 2, 0);
        into(r, 1, 3, 1, 0, 3, 0).same("swap(0)", -1);
        r = at("23: that are both RIGHT when these change places (the other is, the first is not)").chain("+a-b=0~0", 0);
        into(r, 0, 0, 0, 0, 2, 0);
        into(r, 0, 1, 1, 0, 3, 0);
        into(r, 1, 2, 0, 0, 1, 0);
        into(r, 1, 3, 1, 0, 2, 0).same("swap(0)", -1);
        r = at("23: that are both RIGHT (a THING that QUARRELS makes none so)").chain("+a-b=0~0", 0);
        into(r, 0, 0, 0, 0, 1, 0, 5, 0);
        into(r, 0, 1, 1, 0, 2, 0);
        into(r, 1, 2, 0, 0, 2, 0);
        into(r, 1, 3, 1, 0, 1, 0).same("swap(0)", -1).is("measure(0, 1, 0)", 3).same("swap(0)", 0);
    }

    private static void swapLeast() {
        Run r = at("23: the least PART").chain("+a-b=0~0", 0);
        into(r, 3, 0, 0, 0, 1, 0);
        into(r, 3, 1, 1, 0, 2, 0);
        into(r, 4, 2, 0, 0, 2, 0);
        into(r, 4, 3, 1, 0, 1, 0);
        swapIs("23: the least PART (a change of b would do, too)", r, 0, 3, 4);
        into(r, 1, 4, 1, 0, 3, 0);
        into(r, 1, 5, 0, 0, 4, 0);
        into(r, 2, 6, 1, 0, 4, 0);
        into(r, 2, 7, 0, 0, 3, 0);
        swapIs("23: of like ones the least MACHINE", r, 0, 1, 2);
        r = new Run(due).chain("+a-b=0~0", 0);
        for (int m = 0; m < 6; m++) {
            into(r, m, 2 * m, 0, 0, m == 1 ? 7 : 8, 0);
            into(r, m, 2 * m + 1, 1, 0, m == 1 ? 8 : 7, 0);
        }
        swapIs("23: then the least other one (0 changes with 1; 1 with each would do)", r, 0, 0, 1);
        r.is("put(0, 2)", 0).is("put(1, 0)", -1);
        swapIs("23: (both are RIGHT now: none is left)", r, -1, -1, -1);
        r = new Run(due).chain("+a-b=0~0", 0).chain("+b-c=-9999~9999", 1);
        for (int m = 0; m < 4; m++) {
            into(r, m, 3 * m, 0, 0, m == 0 ? 7 : 8, 0);
            into(r, m, 3 * m + 1, 1, 0, m == 0 ? 8 : 7, 0);
            into(r, m, 3 * m + 2, 2, 0, 5, 0);
        }
        swapIs("23: then the least other one (0 with 1, with 2 or with 3)", r, 0, 0, 1);
        r.is("measure(5, 9, 0)", 2);
        swapIs("23: then the least other one (1 is not KNOWN: 0 with 2)", r, 0, 0, 2);
        r = new Run(due).chain("+b-c=0~0", 0).chain("+a=5~9", 1);
        for (int m = 0; m < 2; m++) {
            into(r, m, 3 * m, 0, 0, 5, 0);
            into(r, m, 3 * m + 1, 1, 0, 6 + m, 0);
            into(r, m, 3 * m + 2, 2, 0, 7 - m, 0);
        }
        swapIs("23: the least PART (of b and c, as a change of a sets nothing right)", r, 1, 0, 1);
        swapLeastPart();
    }

    /** PART a's of MACHINES 4 and 5, b's of MACHINES 0 and 1: c is as the one of them that stays. */
    private static void swapLeastPart() {
        Run r = new Run(due).chain("+a-c=0~0", 0).chain("+b-c=0~0", 1);
        int[] machine = {0, 1, 4, 5}, a = {1, 2, 4, 3}, b = {2, 1, 3, 4}, c = {1, 2, 3, 4};
        for (int i = 0; i < 4; i++) {
            into(r, machine[i], 3 * i, 0, 0, a[i], 0);
            into(r, machine[i], 3 * i + 1, 1, 0, b[i], 0);
            into(r, machine[i], 3 * i + 2, 2, 0, c[i], 0);
        }
        swapIs("23: the least PART (ahead of the least MACHINE)", r, 0, 4, 5);
        r.is("put(2, 6)", -1);
        swapIs("23: the least PART (b: a is in MACHINE 4 no more)", r, 1, 0, 1);
    }

    private static void swapStays() {
        Run r = two(0, 0, 1);
        due.about("23: when these change places (they do not)");
        r.is("swap(0)", 0).is("in(0, 0)", 0).is("in(1, 0)", 3).is("all()", 0).is("put(0, 3)", 0).is("put(1, 0)", -1).is("all()", 3);
        r = at("23: not both RIGHT (one is, and is with the other's, too)").chain("+a-b=0~1", 0);
        into(r, 2, 0, 0, 0, 6, 0);
        into(r, 2, 1, 1, 0, 5, 0);
        into(r, 3, 2, 0, 0, 5, 0);
        into(r, 3, 3, 1, 0, 6, 0);
        swapIs("23: not both RIGHT (one is, and is with the other's, too)", r.is("all()", 4), 0, 2, 3);
    }

    // ---- promise 24

    private static void told() {
        Run r = at("24: UNKNOWN (MACHINES 0 to 5)").is("told(0, 1)", 0).is("told(5, 2)", 0).is("told(0, 1)", 1).is("told(5, 2)", 2);
        r.is("told(1, 0)", 0).is("told(4, 0)", 0).beside("told(#, 0)", 0, 5, U);
        r = at("24: FAILED (1), SOUND (2), or neither (0) .. OUTSIDE").is("told(3, 2)", 0).is("told(3, 0)", 2).is("told(3, 1)", 0);
        r.beside("told(3, #)", 0, 2, O).is("told(3, 1)", 1);
        r = at("24: UNKNOWN; OUTSIDE .. of several the first as told").refused("told(6, 3)", U).refused("told(-1, -1)", U);
    }

    // ---- promise 25

    private static void blamed() {
        Run r = at("25: each FAILED one (there is none): no LOT").same("blamed()", 0).thing(0, 0, 3).same("blamed()", 0).is("put(0, 0)", -1);
        r.same("blamed()", 0).is("told(0, 2)", 0).same("blamed()", 0).is("told(0, 1)", 2).is("blamed()", 8).is("told(0, 0)", 1).same("blamed()", 0);
        r = at("25: BLAMED LOTS, as bits (LOT 0, LOT 11)").is("told(0, 1)", 0).thing(0, 0, 0).thing(1, 0, 11).is("put(0, 0)", -1).same("blamed()", 1);
        r.is("put(0, 1)", 0).same("blamed()", 2048);
        r = at("25: NONE: there are none such (a FAILED one is empty)").is("told(5, 1)", 0).same("blamed()", -1);
        into(r, 5, 0, 0, 7).is("blamed()", 128).is("told(0, 1)", 0).same("blamed()", -1);
        r = at("25: NONE: there are none such (a SOUND one has all that the FAILED one has)");
        into(r, 0, 0, 0, 7);
        into(r, 0, 1, 1, 8);
        into(r, 1, 2, 2, 7);
        r.is("told(0, 1)", 0).is("told(1, 2)", 0).is("blamed()", 256);
        into(r, 1, 3, 3, 8).same("blamed()", -1).is("told(1, 0)", 2).same("blamed()", 128);
        r = at("25: a MACHINE may be told as FAILED (the first and the last)");
        into(r, 0, 0, 0, 1);
        into(r, 5, 1, 0, 2).is("told(0, 1)", 0).is("told(5, 1)", 0).same("blamed()", 6);
        r = at("25: no SOUND one has any (the first and the last; an empty one has none)");
        into(r, 2, 0, 0, 1);
        into(r, 2, 1, 1, 2);
        into(r, 2, 2, 2, 3).is("told(2, 1)", 0).is("told(3, 2)", 0).same("blamed()", 2);
        into(r, 0, 3, 0, 1).is("told(0, 2)", 0).same("blamed()", 4);
        into(r, 5, 4, 7, 2).is("told(5, 2)", 0).same("blamed()", 8);
        blamedFewest();
        blamedLoose();
    }

    private static void blamedFewest() {
        Run r = at("25: the fewest LOTS (one for all six, though each has one of less bits)");
        for (int m = 0; m < 6; m++) {
            into(r, m, 2 * m, 0, m);
            into(r, m, 2 * m + 1, 7, 11).is("told(" + m + ", 1)", 0);
        }
        r.same("blamed()", 2048).is("told(5, 2)", 1).same("blamed()", 31);
        r = at("25: the fewest LOTS (as many as there are FAILED ones)");
        for (int m = 0; m < 6; m++) into(r, m, m, m, 6 + m).is("told(" + m + ", 1)", 0);
        r.same("blamed()", 63 << 6);
        r = at("25: (of like ones of least bits)");
        for (int p = 0; p < 8; p++) into(r, 0, p, p, 11 - p);
        r.is("told(0, 1)", 0).same("blamed()", 16);
        r = at("25: (of like ones of least bits: LOTS 3 and 4, not 0 and 5)");
        into(r, 0, 0, 0, 0);
        into(r, 0, 1, 1, 3);
        into(r, 1, 2, 0, 5);
        into(r, 1, 3, 1, 4);
        r.is("told(0, 1)", 0).is("told(1, 1)", 0).is("blamed()", 1 + 16);
        into(r, 2, 4, 0, 0).is("told(2, 2)", 0).is("blamed()", 8 + 16);
    }

    private static void blamedLoose() {
        Run r = at("25: has a THING of some of them (not of one that lies loose)").is("told(0, 1)", 0).thing(0, 0, 4).same("blamed()", -1);
        r.is("put(0, 0)", -1).is("blamed()", 16).thing(1, 0, 5).is("put(0, 1)", 0).same("blamed()", 32).is("put(1, 1)", -1).same("blamed()", -1);
        r = at("25: no SOUND one has any (one that lies loose is in none)").is("told(0, 1)", 0).is("told(1, 2)", 0);
        into(r, 0, 0, 0, 4);
        into(r, 1, 1, 0, 4).same("blamed()", -1).thing(2, 0, 6).is("put(1, 2)", 1).same("blamed()", 16);
    }

    // ---- promise 26

    private static void called() {
        Run r = at("26: MACHINES that have a THING of a BLAMED LOT (there is none)").same("called()", 0);
        into(r, 0, 0, 0, 3).same("called()", 0).is("told(0, 2)", 0).same("called()", 0);
        r = at("26: NONE: nothing can be BLAMED").is("told(0, 1)", 0).same("called()", -1);
        into(r, 1, 0, 0, 3).same("called()", -1);
        r = at("26: CALLED BACK, as bits (the FAILED one alone: the first, the last)");
        into(r, 0, 0, 0, 3).is("told(0, 1)", 0).same("called()", 1).is("put(5, 0)", -1).is("told(5, 1)", 0).is("told(0, 0)", 1).same("called()", 32);
        r = at("26: CALLED BACK, as bits (all)");
        for (int m = 0; m < 6; m++) into(r, m, m, m, 9);
        r.is("told(3, 1)", 0).same("called()", 63);
        r = at("26: MACHINES that have a THING of a BLAMED LOT (of another LOT, or loose, are not)");
        into(r, 2, 0, 0, 9);
        into(r, 3, 1, 1, 10).thing(2, 2, 9).is("told(2, 1)", 0).same("called()", 4).is("put(3, 2)", -1).same("called()", 12);
        r = at("26: a BLAMED LOT (of like ones the one of least bits only)");
        into(r, 2, 0, 0, 9);
        into(r, 2, 1, 1, 8);
        into(r, 4, 2, 0, 9);
        into(r, 5, 3, 0, 8).is("told(2, 1)", 0).same("called()", 4 + 32);
        r = at("26: (no SOUND one is CALLED BACK)");
        into(r, 2, 0, 0, 9);
        into(r, 3, 1, 0, 9).is("told(2, 1)", 0).same("called()", 12).is("told(3, 2)", 0).same("called()", -1);
    }
}
