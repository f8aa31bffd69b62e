import java.lang.reflect.InvocationTargetException;
import java.lang.reflect.Method;
import java.util.HashMap;
import java.util.LinkedHashSet;
import java.util.Map;
import java.util.Set;

/**
 * A run of calls on one new object, each told as a text, as "part(7, 0, 6)", with the answer that is due.
 * A run makes no more calls than the document promises an object, what the checks call themselves counted.
 */
final class Run {
    private static final int CALLS = 512;
    private static final Map<String, Method> FACE = new HashMap<>();
    static {
        for (Method m : SmallMakers.class.getMethods()) FACE.put(m.getName(), m);
    }

    private final SmallMakers x = new SmallMakers();
    private final Due due;
    private int calls = 0;

    Run(Due due) {
        this.due = due;
    }

    long call(String text) {
        calls++;
        if (calls > CALLS) throw new IllegalStateException("the test makes more calls than are promised: " + text);
        int open = text.indexOf('(');
        String[] told = text.substring(open + 1, text.length() - 1).split(", *");
        Method m = FACE.get(text.substring(0, open));
        Object[] with = new Object[m.getParameterCount()];
        for (int i = 0; i < with.length; i++) {
            boolean wide = m.getParameterTypes()[i] == long.class;
            with[i] = wide ? (Object) Long.parseLong(told[i]) : (Object) Integer.parseInt(told[i]);
        }
        try {
            return ((Number) m.invoke(x, with)).longValue();
        } catch (InvocationTargetException e) {
            throw new IllegalStateException(text + " threw " + e.getCause());
        } catch (IllegalAccessException e) {
            throw new IllegalStateException(text + " is not of the face");
        }
    }

    int made() {
        return calls;
    }

    Run is(String call, long want) {
        due.is(want, call(call), call);
        return this;
    }

    /** The call is refused, and changes nothing. */
    Run refused(String call, long want) {
        return same(call, want);
    }

    /** The call answers so, and changes nothing that digest() tells. */
    Run same(String call, long want) {
        long before = call("digest()");
        is(call, want);
        due.is(before, call("digest()"), "digest() behind " + call);
        return this;
    }

    /** The call with what lies beside least to greatest in the place of #: each is refused. */
    Run beside(String call, int least, int greatest, long want) {
        long before = call("digest()");
        for (int v : numbersBeside(least, greatest)) is(call.replace("#", "" + v), want);
        due.is(before, call("digest()"), "digest() behind " + call);
        return this;
    }

    /** The next ones, the farthest ones, and such as a byte or a short would take for one within. */
    private static Set<Integer> numbersBeside(int least, int greatest) {
        Set<Integer> some = new LinkedHashSet<>();
        for (int v : new int[] {least - 1, greatest + 1, Integer.MIN_VALUE, Integer.MAX_VALUE,
            least + 256, greatest - 256, least + 65536, greatest - 65536}) {
            if (v < least || v > greatest) some.add(v);
        }
        return some;
    }

    /** Letters come behind THE PAGE, eight a call; the last call answers so. */
    Run writes(String text, long want) {
        long answer = 0;
        for (int at = 0; at < text.length(); at += 8) {
            answer = call(letters(text.substring(at, Math.min(at + 8, text.length()))));
        }
        due.is(want, answer, "letters() of \"" + text + "\"");
        return this;
    }

    static String letters(String upToEight) {
        return "letters(" + Due.packed(upToEight) + ")";
    }

    /** THE PAGE becomes the text, and chain() answers so. */
    Run chain(String text, long want) {
        call("blank()");
        writes(text, text.length());
        due.is(want, call("chain()"), "chain() of \"" + text + "\"");
        return this;
    }

    /** A THING of a PART, of a LOT, with MEASURES (a number and an ERROR each). */
    Run thing(int number, int part, int lot, int... measures) {
        is("thing(" + part + ", " + lot + ")", number);
        for (int i = 0; i < measures.length; i += 2) {
            is("measure(" + number + ", " + measures[i] + ", " + measures[i + 1] + ")", i / 2 + 1);
        }
        return this;
    }

    /** What of each kind there is, none of it as at first: one THING in a MACHINE, one loose, an OFFER, .. */
    Run filled() {
        chain("+b-c=-7~70", 0).writes("+a-d=", 5);
        is("part(1, 0, 1)", 0).is("part(1, 1, 140)", 100).is("part(1, 2, 2)", 0);
        is("counted(1, -4, 3)", 0).is("counted(1, 3, 6)", 0).is("grade(2, 0, 5)", 2).is("grade(2, 1, 44)", 4);
        thing(0, 1, 4, 140, 2, 141, 3).thing(1, 2, 11).thing(2, 2, 0, 10, 1, 90, 1);
        is("put(3, 0)", -1).is("told(3, 1)", 0).is("told(5, 2)", 0);
        is("hours(1, 10)", 8).is("offer(1, 6, 21, 17)", 0).is("late(1, 9)", 1).is("late(1, 4)", 2);
        is("order(6, 12)", 0).is("order(0, 7)", 1);
        is("look(31)", 0).is("look(32)", 1).is("finds(1, 2, 55)", 0).is("asked(3, 66)", 0);
        is("made(9)", 1).is("made(4)", 2).is("made(7)", 3);
        return is("giveOut(2, 0)", 3).is("given(-1, 0)", -1);
    }
}
