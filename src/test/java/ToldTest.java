import java.lang.reflect.Constructor;
import java.lang.reflect.Method;
import java.lang.reflect.Modifier;
import java.util.Set;
import java.util.TreeSet;

/** Promises 40 and 41, the public face, and calls with any numbers, which are refused and never throw. */
public final class ToldTest {
    private static final Due due = new Due();

    public static void main(String[] args) throws Exception {
        count();
        digest();
        face();
        anyNumbers();
        due.end();
    }

    private static void count() {
        due.about("promise 40");
        SmallMakers x = new SmallMakers();
        for (int w : new int[] {-1, 10, Integer.MIN_VALUE, Integer.MAX_VALUE}) {
            due.is(SmallMakers.OUTSIDE, x.count(w), "count(" + w + ")");
        }
        fill(x);
        long[] many = {1, 3, 2, 3, 4, 5, 1, 2, 2, 4};
        for (int w = 0; w < 10; w++) due.is(many[w], x.count(w), "count(" + w + ")");
    }

    /** Something of each kind, each number unlike its neighbours. */
    private static void fill(SmallMakers x) {
        Due.chain(x, "+b-c=-7~70");
        Due.write(x, "+a-d=");
        x.part(1, 0, 1);
        x.part(1, 1, 140);
        x.part(1, 2, 2);
        x.counted(1, -4, 3);
        x.counted(1, 3, 6);
        x.grade(2, 0, 5);
        x.grade(2, 1, 44);
        x.thing(1, 4);
        x.thing(2, 11);
        x.thing(2, 0);
        x.measure(0, 140, 2);
        x.measure(0, 141, 3);
        x.measure(2, 10, 1);
        x.measure(2, 90, 1);
        x.put(3, 0);
        x.told(3, 1);
        x.told(5, 2);
        x.hours(1, 10);
        x.offer(1, 6, 21, 17);
        x.late(1, 9);
        x.late(1, 4);
        x.order(6, 12);
        x.order(0, 7);
        for (int c = 31; c < 34; c++) x.look(c);
        x.finds(1, 2, 55);
        x.asked(3, 66);
        for (int v = 1; v < 5; v++) x.made(v * v);
        x.giveOut(2, 0);
        x.given(-1, 0);
        x.given(2, 10);
    }

    private static long h;

    private static void then(long... numbers) {
        for (long v : numbers) h = 31 * h + v;
    }

    private static void times(int many, long... numbers) {
        for (int i = 0; i < many; i++) then(numbers);
    }

    private static void digest() {
        due.about("promise 41");
        h = 283;
        times(8, 0, 100, 0, 100, 0, 0, 0, 0, 0, 0, 0, 0, 0);
        then(8, 1, 4, 2, 2, 4, 1, 8);
        times(6, -1, -1, -1, -1, -1, -1, -1, -1, 0);
        for (int s = 0; s < 4; s++) {
            then(8);
            times(8, 0, 0);
        }
        times(4, 0);
        times(10, 0);
        due.is(h, new SmallMakers().digest(), "digest() of a new object");
        SmallMakers x = new SmallMakers();
        fill(x);
        due.is(filled(), x.digest(), "digest() of one that has something of each kind");
        due.is(filled(), x.digest(), "digest() again");
    }

    private static long filled() {
        h = 283;
        then(0, 100, 0, 100, 0, 0, 0, 0, 0, 0, 0, 0, 0);
        then(1, 140, 2, 139, 3, 0, 0, 0, 0, 0, 0, 6, 0);
        times(6, 0, 100, 0, 100, 0, 0, 0, 0, 0, 0, 0, 0, 0);
        then(8, 1, 4, 2, 5, 44, 1, 8);
        then(2, -7, 70, 39, 39 - 13, 39 + 13, 1);
        then(1, 4, 138, 142, 2, 11, -1001, -1001, 2, 0, -1002, -1002);
        times(3, -1, -1, -1, -1, -1, -1, -1, -1, 0);
        then(-1, 0, -1, -1, -1, -1, -1, -1, 1);
        then(-1, -1, -1, -1, -1, -1, -1, -1, 0);
        then(-1, -1, -1, -1, -1, -1, -1, -1, 2);
        then(8);
        times(8, 0, 0);
        then(10);
        times(6, 0, 0);
        then(21, 17, 0, 0, 9, 4);
        for (int s = 2; s < 4; s++) {
            then(8);
            times(8, 0, 0);
        }
        then(6, 12, 0, 7);
        then(31, 0, 0, 0, 0, 32, 0, 0, 55, 0, 33, 0, 0, 0, 0);
        then(0, 0, 0, 66);
        then(1, 4, 9, 16);
        then('+', 'a', '-', 'd', '=');
        then(1, 3, 2, 3, 4, 5, 1, 2, 2, 4);
        return h;
    }

    private static void face() throws Exception {
        due.about("the face");
        due.is(-1, SmallMakers.NONE, "NONE");
        due.is(-101, SmallMakers.UNKNOWN, "UNKNOWN");
        due.is(-102, SmallMakers.OUTSIDE, "OUTSIDE");
        due.is(-103, SmallMakers.STATE, "STATE");
        due.is(-104, SmallMakers.FULL, "FULL");
        due.holds(Modifier.isFinal(SmallMakers.class.getModifiers()), "the class is final");
        Set<String> face = new TreeSet<>();
        for (Method m : SmallMakers.class.getDeclaredMethods()) {
            if (!Modifier.isPrivate(m.getModifiers())) face.add(m.getReturnType() + " " + m.getName() + "/" + m.getParameterCount());
        }
        String want = "int part/3,int as/2,int size/1,int grade/3,int price/2,int counted/3,int letters/1,int blank/0,"
            + "int fault/0,int chain/0,int of/2,long odds/2,int giveOut/2,int thing/2,int measure/3,int known/2,int pairs/5,"
            + "int put/2,int in/2,int right/2,int all/0,int swap/1,int told/2,int blamed/0,int called/0,int hours/2,"
            + "int offer/4,int order/2,int given/2,int late/2,int foretold/2,int look/1,int finds/3,int asked/2,int enough/1,"
            + "int made/1,int unmade/0,int drift/2,int count/1,long digest/0";
        due.holds(face.equals(new TreeSet<>(Set.of(want.split(",")))), "the methods of the face: " + face);
        Constructor<?>[] made = SmallMakers.class.getDeclaredConstructors();
        due.is(1, made.length, "constructors");
        due.is(0, made[0].getParameterCount(), "what the constructor takes");
        due.is(5, SmallMakers.class.getFields().length, "public fields");
    }

    /** Any numbers in any state: a call answers, and what is refused changes nothing. */
    private static void anyNumbers() throws Exception {
        due.about("any numbers");
        int[] some = {0, 1, 2, 3, 5, 7, 8, 10, 12, 24, -1, -4, 40, 60, 99, 100, 999, 1000, 2000, 9999,
            Integer.MIN_VALUE, Integer.MAX_VALUE, 1 << 30, -(1 << 30), 33, 15};
        Method[] calls = SmallMakers.class.getDeclaredMethods();
        java.util.Arrays.sort(calls, (a, b) -> a.getName().compareTo(b.getName()));
        java.util.Random r = new java.util.Random(5);
        for (int run = 0; run < 400; run++) {
            SmallMakers x = new SmallMakers();
            if (run % 2 == 0) fill(x);
            for (int i = 0; i < 150; i++) {      // with both digests fewer than the 512 calls that are promised
                Method m = calls[r.nextInt(calls.length)];
                if (Modifier.isPrivate(m.getModifiers())) continue;
                Object[] with = new Object[m.getParameterCount()];
                for (int a = 0; a < with.length; a++) {
                    int v = r.nextInt(4) == 0 ? some[r.nextInt(some.length)] : r.nextInt(8);
                    with[a] = m.getParameterTypes()[a] == long.class ? (Object) (r.nextLong() >>> 8 * r.nextInt(8)) : (Object) v;
                }
                long before = x.digest();
                long got = ((Number) m.invoke(x, with)).longValue();
                boolean refused = m.getReturnType() == int.class && (got <= -101 && got >= -104 || got == -100001 || got == -100002);
                due.holds(!refused || before == x.digest(), m.getName() + " was refused and changed something");
            }
        }
    }
}
