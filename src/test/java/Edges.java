import java.lang.reflect.InvocationTargetException;
import java.lang.reflect.Method;
import java.lang.reflect.Modifier;
import java.util.Arrays;
import java.util.Comparator;
import java.util.function.LongSupplier;

/**
 * What the tests of boundary cases share. Each of those tests is one static method that holds one sentence of
 * ../shared/DOC.md; its remark says which. An answer that is not due is told by the test's name and line.
 */
final class Edges {
    /** What numbers the tests try where any number off the edge must do the same. */
    static final int LEAST = Integer.MIN_VALUE;
    static final int MOST = Integer.MAX_VALUE;

    private Edges() {
    }

    /** Runs all tests of a class. */
    static void run(Class<?> tests) throws IllegalAccessException {
        Method[] methods = tests.getDeclaredMethods();
        Arrays.sort(methods, Comparator.comparing(Method::getName));
        for (Method m : methods) {
            boolean isHelper = Modifier.isPrivate(m.getModifiers()) || m.getName().equals("main");
            if (!isHelper && !m.isSynthetic()) {
                runOne(m);
            }
        }
        Due.finish();
    }

    private static void runOne(Method m) throws IllegalAccessException {
        int before = Due.calls();
        try {
            m.invoke(null);
        } catch (InvocationTargetException e) {
            Due.due(m.getName() + " threw " + e.getCause(), 1, 0);
        }
        Due.due(m.getName() + " asks something", Due.calls() > before ? 1 : 0, 1);
    }

    static void is(long got, long due) {
        Due.due(got == due ? "" : place(), got, due);
    }

    /**
     * Each of the calls is refused with this answer, is counted once, and changes nothing else. What there is is asked
     * for once ahead of all of them and once after, as an object is good for 512 calls.
     */
    static void refused(NoFartherThanAThrow x, int answer, LongSupplier... calls) {
        int number = answer <= -10 ? answer + 10 : answer;
        int[] counts = counts(x);
        long[] before = all(x);
        for (LongSupplier call : calls) {
            is(call.getAsLong(), answer);
        }
        long[] after = all(x);
        counts[-number] += calls.length;
        boolean isSame = Arrays.equals(before, after) && Arrays.equals(counts, counts(x));
        Due.due(isSame ? "" : place() + ": something else changed", isSame ? 1 : 0, 1);
    }

    /** What happens in a call that is no refusal: none is counted. */
    static void notRefused(NoFartherThanAThrow x) {
        for (int what = 11; what <= 17; what++) {
            is(x.status(what), 0);
        }
    }

    private static int[] counts(NoFartherThanAThrow x) {
        int[] counts = new int[8];
        for (int number = 1; number <= 7; number++) {
            counts[number] = x.status(10 + number);
        }
        return counts;
    }

    /** What can be told without a refusal; of long ROWS only the first elements and the last. */
    private static long[] all(NoFartherThanAThrow x) {
        long[] told = new long[400];
        int n = 0;
        for (int what = 0; what < 10; what++) {
            told[n++] = x.status(what);
        }
        for (int thing = 0; thing < x.status(0); thing++) {
            for (int what = 0; what < 6; what++) {
                told[n++] = x.thingOf(thing, what);
            }
        }
        for (int man = 0; man < x.status(1); man++) {
            told[n++] = x.manOf(man, 0);
            told[n++] = x.manOf(man, 1);
        }
        for (int want = 0; want < x.status(2); want++) {
            for (int what = 0; what < 3; what++) {
                told[n++] = x.wantOf(want, what);
            }
        }
        for (int s = 0; s < 8; s++) {
            int held = x.holds(s);
            told[n++] = held;
            for (int i = 0; i < 5 && held >= 100; i++) {
                told[n++] = x.element(s, i < 4 ? i : 159);
            }
        }
        for (int i = 0; i < 3; i++) {
            told[n++] = x.trace(i);
        }
        return told;
    }

    /** The test that asked, and its line. */
    private static String place() {
        return StackWalker.getInstance().walk(frames -> frames
            .filter(f -> f.getClassName().startsWith("EdgesOf") && !f.getMethodName().equals("main"))
            .map(f -> f.getClassName() + "." + f.getMethodName() + ":" + f.getLineNumber())
            .reduce((inner, outer) -> outer).orElse("?"));
    }

    /** The SEED that makes the next DRAW below 10 this one. */
    static int seedFor(int draw) {
        int seed = 0;
        while (((seed * 1103515245 + 12345) >>> 16) % 10 != draw) {
            seed++;
        }
        return seed;
    }

    /** GLASS is thrown over 4 steps (CAUGHT 9) with a DRAW of 9: it isn't caught. The SEED is another one then. */
    static void breakGlass(NoFartherThanAThrow x, int man, int glass) {
        x.seed(seedFor(9));
        is(x.toss(man, glass, 4), 0);
        is(x.thingOf(glass, 5), 1);
    }

    /** PEOPLE of these STRENGTHS. */
    static void people(NoFartherThanAThrow x, int... strengths) {
        for (int strength : strengths) {
            is(x.man(strength) >= 0 ? 1 : 0, 1);
        }
    }
}
