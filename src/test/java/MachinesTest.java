/** Promises 19 to 26: MACHINES, what is RIGHT, SWAPPED, BLAMED, CALLED BACK. */
public final class MachinesTest {
    private static final int U = SmallMakers.UNKNOWN, O = SmallMakers.OUTSIDE;
    private static final int LOW = Integer.MIN_VALUE, TOP = Integer.MAX_VALUE;
    private static final Due due = new Due();

    public static void main(String[] args) {
        put();
        in();
        right();
        all();
        swap();
        swapLeast();
        told();
        blamed();
        called();
        due.end();
    }

    private static void put() {
        due.about("promise 19");
        SmallMakers x = new SmallMakers();
        due.is(U, x.put(0, 0), "there are no things");
        x.thing(2, 0);
        x.thing(2, 0);
        x.thing(3, 0);
        due.is(-1, x.put(0, 0), "put(0, 0)");
        due.is(-1, x.put(0, 2), "one of another part");
        due.is(-1, x.put(0, 0), "the same again");
        due.is(0, x.in(0, 2), "it is still there");
        due.is(1, x.count(8), "count(8)");
        due.is(0, x.put(0, 1), "put(0, 1)");
        due.is(1, x.in(0, 2), "in(0, 2)");
        due.is(1, x.count(8), "one came, one lies loose");
        due.is(-1, x.put(5, 1), "put(5, 1)");
        due.is(-1, x.in(0, 2), "it went out of where it was");
        due.is(1, x.in(5, 2), "in(5, 2)");
        due.is(-1, x.put(0, 0), "back into the first");
        due.is(0, x.count(8), "none lies loose");
        due.is(1, x.put(5, 0), "from one machine into another: what was there lies loose, and does not change places");
        due.is(-1, x.in(0, 2), "so nothing is where it was");
        due.is(2, x.in(0, 3), "the other part stays");
        due.is(1, x.count(8), "count(8)");
        long before = x.digest();
        for (int m : new int[] {-1, 6, LOW, TOP}) due.is(U, x.put(m, 0), "put(" + m + ", 0)");
        for (int t : new int[] {-1, 3, LOW, TOP}) due.is(U, x.put(0, t), "put(0, " + t + ")");
        due.is(before, x.digest(), "digest() after refusals");
    }

    private static void in() {
        due.about("promise 20");
        SmallMakers x = new SmallMakers();
        for (int p = 0; p < 8; p++) x.thing(p, 0);
        for (int p = 0; p < 8; p++) x.put(p % 6, p);
        for (int m = 0; m < 6; m++) {
            for (int p = 0; p < 8; p++) due.is(p % 6 == m ? p : -1, x.in(m, p), "in(" + m + ", " + p + ")");
        }
        for (int m : new int[] {-1, 6, LOW, TOP}) due.is(U, x.in(m, 0), "in(" + m + ", 0)");
        for (int p : new int[] {-1, 8, LOW, TOP}) due.is(U, x.in(0, p), "in(0, " + p + ")");
    }

    private static void right() {
        due.about("promise 21");
        SmallMakers x = new SmallMakers();
        due.is(U, x.right(0, 0), "there are no chains");
        Due.chain(x, "+a-b=-3~12");
        x.thing(0, 0);
        x.thing(1, 0);
        x.put(0, 0);
        x.measure(0, 100, 5);
        x.measure(1, 97, 1);
        due.is(0, x.right(0, 0), "one is not there");
        x.put(0, 1);
        due.is(1, x.right(0, 0), "95 less 98 is the least, 105 less 96 below the greatest");
        Due.chain(x, "+a-b=-2~12");
        due.is(0, x.right(0, 1), "the least is above");
        Due.chain(x, "+a-b=-3~9");
        due.is(1, x.right(0, 2), "105 less 96 is the greatest");
        Due.chain(x, "+a-b=-3~8");
        due.is(0, x.right(0, 3), "the greatest is below");
        Due.chain(x, "+a+a-b-a=-99~99");
        due.is(1, x.right(0, 4), "95 + 95 - 98 - 105 to 105 + 105 - 96 - 95: a part that is there often");
        Due.chain(x, "+a+a-b-a=-12~99");
        due.is(0, x.right(0, 5), "-13 is below the least");
        due.is(0, x.right(1, 0), "an empty machine");
        x.measure(1, 200, 1);
        due.is(0, x.right(0, 0), "one quarrels");
        x.measure(1, 97, 1);
        due.is(1, x.right(0, 0), "the third decides");
        x.thing(0, 0);
        x.put(0, 2);
        due.is(0, x.right(0, 0), "one is not measured");
        for (int m : new int[] {-1, 6, LOW, TOP}) due.is(U, x.right(m, 0), "right(" + m + ", 0)");
        for (int c : new int[] {-1, 6, LOW, TOP}) due.is(U, x.right(0, c), "right(0, " + c + ")");
    }

    private static void all() {
        due.about("promise 22");
        SmallMakers x = new SmallMakers();
        due.is(63, x.all(), "without chains all are right");
        Due.chain(x, "+a=90~110");
        due.is(0, x.all(), "none has what it needs");
        for (int i = 0; i < 3; i++) x.measure(x.thing(0, 0), 100 + 8 * i, 1);
        x.put(1, 0);
        x.put(3, 1);
        x.put(5, 2);
        due.is(2 + 8, x.all(), "the third is too great");
        Due.chain(x, "+a=105~999");
        due.is(8, x.all(), "all chains must be right");
    }

    private static void swap() {
        due.about("promise 23");
        SmallMakers x = new SmallMakers();
        for (int w = 0; w < 3; w++) due.is(-1, x.swap(w), "all are right: swap(" + w + ")");
        Due.chain(x, "+c-d=-1~1");
        int[] numbers = {100, 105, 104, 99, 100, 100};
        for (int i = 0; i < 6; i++) x.measure(x.thing(2 + i % 2, 0), numbers[i], 0);
        for (int i = 0; i < 6; i++) x.put(new int[] {1, 4, 5}[i / 2], i);
        due.is(32, x.all(), "machine 5 is right");
        long before = x.digest();
        due.is(2, x.swap(0), "the part");
        due.is(1, x.swap(1), "the machine");
        due.is(4, x.swap(2), "the other one");
        due.is(before, x.digest(), "nothing is changed");
        due.is(0, x.in(1, 2), "nothing is put elsewhere");
        for (int w : new int[] {-1, 3, LOW, TOP}) due.is(O, x.swap(w), "swap(" + w + ")");
        x.measure(3, 300, 0);
        due.is(-1, x.swap(0), "what is not known is never right");
        swapOneRight();
    }

    /** One of both may be right ahead; one that has none of the part can't change. */
    private static void swapOneRight() {
        SmallMakers x = new SmallMakers();
        Due.chain(x, "+a-b=0~2");
        Due.chain(x, "+a-c=0~9");
        int[] numbers = {102, 100, 102, 100, 101, 100};
        for (int i = 0; i < 6; i++) x.measure(x.thing(i % 3, 0), numbers[i], 0);
        for (int i = 0; i < 6; i++) x.put(i / 3, i);
        due.is(1, x.all(), "machine 0 is right");
        due.is(1, x.swap(0), "part 0 would leave 100 less 102 in machine 0; part 1 sets both right");
        due.is(0, x.swap(1), "the machine");
        due.is(1, x.swap(2), "the other one");
        x.put(2, 1);
        due.is(-1, x.swap(0), "machine 0 has none of part 1 any more");
        due.is(-1, x.swap(2), "so there is no other one");
    }

    private static void swapLeast() {
        SmallMakers x = new SmallMakers();
        Due.chain(x, "+a-b=0~0");
        int[][] in = {{0, 7, 8}, {1, 5, 6}, {3, 6, 5}, {4, 6, 5}, {5, 8, 7}};
        for (int[] m : in) {
            for (int p = 0; p < 2; p++) {
                int t = x.thing(p, 0);
                x.measure(t, m[1 + p], 0);
                x.put(m[0], t);
            }
        }
        swapIs(x, 0, 0, 5);     // and so 1 with 3, 1 with 4, and all of part 1
        x.put(2, 0);
        swapIs(x, 0, 1, 3);
        x.put(0, 4);
        swapIs(x, 0, 1, 4);
        x.put(3, 6);
        swapIs(x, 0, 1, 3);
        x.put(2, 6);
        swapIs(x, -1, -1, -1);
    }

    private static void swapIs(SmallMakers x, int part, int machine, int other) {
        due.is(part, x.swap(0), "swap(0)");
        due.is(machine, x.swap(1), "swap(1)");
        due.is(other, x.swap(2), "swap(2)");
    }

    private static void told() {
        due.about("promise 24");
        SmallMakers x = new SmallMakers();
        for (int m = 0; m < 6; m++) {
            due.is(0, x.told(m, 1), "told(" + m + ", 1)");
            due.is(1, x.told(m, 2), "told(" + m + ", 2)");
            due.is(2, x.told(m, 2), "told(" + m + ", 2) again");
            due.is(2, x.told(m, 0), "told(" + m + ", 0)");
        }
        long before = x.digest();
        for (int m : new int[] {-1, 6, LOW, TOP}) due.is(U, x.told(m, 5), "told(" + m + ", 5)");
        for (int as : new int[] {-1, 3, LOW, TOP}) due.is(O, x.told(0, as), "told(0, " + as + ")");
        due.is(before, x.digest(), "digest() after refusals");
    }

    private static void putNew(SmallMakers x, int machine, int part, int lot) {
        x.put(machine, x.thing(part, lot));
    }

    private static void blamed() {
        due.about("promise 25");
        SmallMakers x = new SmallMakers();
        due.is(0, x.blamed(), "nothing failed");
        x.thing(0, 9);
        x.told(0, 1);
        due.is(-1, x.blamed(), "an empty one failed");
        putNew(x, 0, 0, 3);
        putNew(x, 0, 1, 5);
        due.is(1 << 3, x.blamed(), "of one of both the least");
        putNew(x, 1, 0, 5);
        putNew(x, 1, 1, 7);
        due.is(1 << 3, x.blamed(), "machine 1 is not told of");
        x.told(1, 1);
        due.is(1 << 5, x.blamed(), "one lot of both");
        putNew(x, 2, 7, 5);
        due.is(1 << 5, x.blamed(), "machine 2 is not told of");
        x.told(2, 2);
        due.is(1 << 3 | 1 << 7, x.blamed(), "a sound one has it");
        putNew(x, 3, 0, 7);
        putNew(x, 3, 1, 1);
        x.told(3, 1);
        due.is(1 << 3 | 1 << 7, x.blamed(), "both explain a third, too");
        putNew(x, 4, 2, 1);
        putNew(x, 4, 3, 0);
        x.told(4, 1);
        due.is(1 | 1 << 3 | 1 << 7, x.blamed(), "of like ones of least bits");
        putNew(x, 5, 4, 0);
        x.told(5, 2);
        due.is(1 << 1 | 1 << 3 | 1 << 7, x.blamed(), "another sound one");
        x.told(5, 0);
        due.is(1 | 1 << 3 | 1 << 7, x.blamed(), "it is sound no more");
        putNew(x, 2, 0, 3);
        due.is(-1, x.blamed(), "sound ones have all that machine 0 has");
        x.told(0, 0);
        due.is(1 | 1 << 7, x.blamed(), "machine 0 did not fail");
        fewest();
    }

    private static void fewest() {
        SmallMakers x = new SmallMakers();
        for (int m = 0; m < 3; m++) {
            putNew(x, m, 0, m);
            putNew(x, m, 1, 11);
            x.told(m, 1);
        }
        due.is(1 << 11, x.blamed(), "fewest is ahead of least bits");
        putNew(x, 3, 1, 11);
        x.told(3, 2);
        due.is(7, x.blamed(), "as many as are needed");
        long before = x.digest();
        x.blamed();
        due.is(before, x.digest(), "blamed() changes nothing");
    }

    private static void called() {
        due.about("promise 26");
        SmallMakers x = new SmallMakers();
        due.is(0, x.called(), "nothing failed, so nothing is called");
        x.told(4, 1);
        due.is(-1, x.called(), "nothing can be blamed");
        putNew(x, 4, 0, 2);
        putNew(x, 4, 1, 6);
        putNew(x, 0, 0, 6);
        putNew(x, 3, 3, 2);
        putNew(x, 5, 7, 2);
        x.thing(7, 2);
        due.is(1 << 3 | 1 << 4 | 1 << 5, x.called(), "all that have a thing of lot 2");
        x.told(5, 2);
        due.is(1 << 0 | 1 << 4, x.called(), "all that have a thing of lot 6");
        x.put(0, 5);
        due.is(1 << 0 | 1 << 4, x.called(), "the other part stays in machine 0");
        x.put(1, 2);
        due.is(1 << 1 | 1 << 4, x.called(), "it went into machine 1");
        x.told(1, 2);
        due.is(-1, x.called(), "nothing can be blamed again");
        x.told(4, 0);
        due.is(0, x.called(), "nothing failed again");
    }
}
