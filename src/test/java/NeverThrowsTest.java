import java.lang.reflect.InvocationTargetException;
import java.lang.reflect.Method;
import java.util.Arrays;
import java.util.Comparator;
import java.util.Random;

/** No call throws, whatever its arguments; a refused call changes nothing but one count of refusals. */
public final class NeverThrowsTest {
    private static final Random RANDOM = new Random(7L);
    private static final int[] EDGES = {Integer.MIN_VALUE, Integer.MIN_VALUE + 1, -100, -2, -1, 0, 1, 2, 7, 8, 9, 40, 41,
        60, 80, 99, 100, 159, 160, 161, 255, 256, Integer.MAX_VALUE - 1, Integer.MAX_VALUE};
    private static final String[] TEXTS = {"thing 5 30 4 7;man 20;want 0 50 9", "man 99;man 1;river 3 9",
        "thing 4 9 1 0;want 0 5 5", "long 99;wind 9", "thing 6 3 9 1;man 44;man 0", "river 20 30;thing 3 9 9 9", "want 0 1 1;"};

    public static void main(String[] args) throws IllegalAccessException {
        Method[] methods = Arrays.stream(NoFartherThanAThrow.class.getDeclaredMethods())
            .filter(m -> java.lang.reflect.Modifier.isPublic(m.getModifiers()))
            .sorted(Comparator.comparing(Method::getName)).toArray(Method[]::new);
        Due.due("methods", methods.length, 44);
        for (int run = 0; run < 400; run++) {
            NoFartherThanAThrow x = new NoFartherThanAThrow();
            boolean isWild = run % 4 == 0;
            for (int call = 0; call < 300; call++) {
                if (RANDOM.nextInt(12) == 0) {
                    Due.text(x, RANDOM.nextInt(8), RANDOM.nextInt(4), TEXTS[RANDOM.nextInt(TEXTS.length)]);
                }
                one(x, methods[RANDOM.nextInt(methods.length)], isWild);
            }
        }
        Due.finish();
    }

    private static void one(NoFartherThanAThrow x, Method m, boolean isWild) throws IllegalAccessException {
        Object[] args = new Object[m.getParameterCount()];
        for (int i = 0; i < args.length; i++) {
            int v = isWild || RANDOM.nextInt(10) == 0 ? EDGES[RANDOM.nextInt(EDGES.length)]
                : RANDOM.nextInt(RANDOM.nextInt(3) == 0 ? 70 : 6);
            if (m.getParameterTypes()[i] == long.class) {
                args[i] = (long) v << RANDOM.nextInt(40);
            } else {
                args[i] = v;
            }
        }
        long[] before = all(x);
        int refused = refused(x);
        String told = m.getName() + Arrays.toString(args);
        long answer = 0;
        try {
            answer = ((Number) m.invoke(x, args)).longValue();
        } catch (InvocationTargetException e) {
            Due.due(told + " threw " + e.getCause(), 1, 0);
        }
        int now = refused(x);
        if (now != refused) {
            long number = answer <= -10 ? answer + 10 : answer;
            Due.due(told + " refused once", now, refused + 1);
            Due.due(told + " answers a refusal", number >= -7 && number <= -1 ? 1 : 0, 1);
            Due.due(told + " changed something", Arrays.equals(before, all(x)) ? 0 : 1, 0);
        } else {
            may(x, told);
        }
    }

    private static int refused(NoFartherThanAThrow x) {
        int sum = 0;
        for (int what = 11; what <= 17; what++) {
            sum += x.status(what);
        }
        return sum;
    }

    /** All that can be told without a refusal. */
    private static long[] all(NoFartherThanAThrow x) {
        long[] told = new long[1500];
        int n = 0;
        for (int what = 0; what < 10; what++) {
            told[n++] = x.status(what);
        }
        for (int thing = 0; thing < x.status(0); thing++) {
            for (int what = 0; what < 6; what++) {
                told[n++] = x.thingOf(thing, what);
            }
        }
        for (int man = 0; man < x.status(1); man++) {
            told[n++] = x.manOf(man, 0);
            told[n++] = x.manOf(man, 1);
        }
        for (int want = 0; want < x.status(2); want++) {
            for (int what = 0; what < 4; what++) {
                told[n++] = x.wantOf(want, what);
            }
        }
        for (int s = 0; s < 8; s++) {
            told[n++] = x.holds(s);
            for (int i = 0; i < 160; i++) {
                told[n++] = x.element(s, i);
            }
        }
        for (int i = 0; i < 20; i++) {
            told[n++] = x.trace(i);
        }
        return told;
    }

    /** What the document says of a valley holds after every call. */
    private static void may(NoFartherThanAThrow x, String told) {
        boolean may = x.status(3) >= 1 && x.status(3) <= 99 && x.status(4) <= x.status(5) && x.status(5) <= x.status(3)
            && x.status(0) <= 8 && x.status(1) <= 8 && x.status(2) <= 4;
        for (int thing = 0; thing < x.status(0); thing++) {
            may = may && stands(x, x.thingOf(thing, 3)) && x.thingOf(thing, 1) >= 1 && x.thingOf(thing, 1) <= 99
                && x.thingOf(thing, 4) < x.status(1) && (x.thingOf(thing, 5) == 0 || x.thingOf(thing, 0) == 4);
        }
        for (int want = 0; want < x.status(2); want++) {
            may = may && stands(x, x.wantOf(want, 1)) && x.wantOf(want, 0) < x.status(0);
        }
        for (int man = 0; man < x.status(1); man++) {
            may = may && x.manOf(man, 1) >= 0 && x.manOf(man, 1) <= 99;
        }
        for (int s = 0; s < 8; s++) {
            may = may && (x.holds(s) < x.status(0) || x.holds(s) >= 100);
        }
        Due.due("as things stand after " + told, may ? 1 : 0, 1);
    }

    private static boolean stands(NoFartherThanAThrow x, int p) {
        return p >= 0 && p <= x.status(3) && !(p > x.status(4) && p < x.status(5));
    }
}
