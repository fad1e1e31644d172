/** Promises 41 and 42: ACTS of THINGS and THE TRACE. */
public final class ActsTest {
    public static void main(String[] args) {
        bodies();
        wrapping();
        none();
        Due.finish();
    }

    private static void act(NoFartherThanAThrow x, int thing, int act, int v, int answer, int... trace) {
        Due.due("act(" + thing + ", " + act + ", " + v + ")", x.act(thing, act, v), answer);
        Due.due("bodies", x.status(8), trace.length);
        for (int i = 0; i < trace.length; i++) {
            Due.due("trace(" + i + ")", x.trace(i), trace[i]);
        }
        Due.due("behind the trace", x.trace(trace.length), -1);
        Due.due("before the trace", x.trace(-1), -1);
    }

    private static void bodies() {
        NoFartherThanAThrow x = new NoFartherThanAThrow();
        for (int kind = 0; kind < 7; kind++) {
            x.thing(kind, 10 + kind, 1, 0);
        }
        int v = 100;
        act(x, 0, 0, v, 100, 10);
        act(x, 0, 1, v, 200, 11, 10);
        act(x, 0, 2, v, 200 ^ 90, 12, 11, 10, 10);
        // m 1, k 11: goes(x) is x + 1 + 11
        act(x, 1, 0, v, 112, 20, 10);
        act(x, 1, 1, v, 224, 11, 20, 10);
        act(x, 1, 2, v, 224 ^ 101, 12, 11, 20, 10, 20, 10);
        // m 2, k 12
        act(x, 2, 0, v, 102, 10);
        act(x, 2, 1, v, -204, 50, 11, 10);
        act(x, 2, 2, v, -204 ^ 90, 12, 50, 11, 10, 10);
        // m 3, k 13
        act(x, 3, 0, v, 103, 10);
        act(x, 3, 1, v, -206 ^ 5, 60, 50, 11, 10);
        act(x, 3, 2, v, -206 ^ 5 ^ 90, 12, 60, 50, 11, 10, 10);
        act(x, 3, 1, -1, -4 ^ 5, 60, 50, 11, 10);
        // m 4, k 14: goes(x) is (x + 4) * 2
        act(x, 4, 0, v, 208, 70, 10);
        act(x, 4, 1, v, 416, 11, 70, 10);
        act(x, 4, 2, v, 360 ^ 152, 71, 12, 11, 70, 10, 70, 10);
        // m 5, k 15: goes(x) is x + 5 + 15
        act(x, 5, 0, v, 120, 20, 10);
        act(x, 5, 1, v, 720, 30, 11, 20, 10);
        act(x, 5, 2, v, 720 ^ 105, 12, 30, 11, 20, 10, 20, 10);
        // m 6, k 16: goes(x) is x + 1 + 6 + 16
        act(x, 6, 0, v, 123, 40, 20, 10);
        act(x, 6, 1, v, 246, 11, 40, 20, 10);
        act(x, 6, 2, v, (246 ^ 107) - 6, 41, 12, 11, 40, 20, 10, 40, 20, 10);
        Due.refusals(x, 0, 0, 0, 0, 0, 0, 0);
        x.part(5);
        act(x, 5, 1, v, 210, 11, 10);
    }

    private static void wrapping() {
        NoFartherThanAThrow x = new NoFartherThanAThrow();
        x.thing(0, 99, 1, 0);
        x.thing(1, 99, 1, 0);
        int most = Integer.MAX_VALUE;
        act(x, 1, 0, most, most + 100, 20, 10);
        act(x, 1, 1, most, (most + 100) * 2, 11, 20, 10);
        act(x, 0, 2, Integer.MIN_VALUE, Integer.MIN_VALUE - 99, 12, 11, 10, 10);
    }

    private static void none() {
        NoFartherThanAThrow x = new NoFartherThanAThrow();
        x.thing(0, 5, 1, 0);
        int[][] calls = {{1, 0}, {-1, 0}, {0, 3}, {0, -1}, {9, 9}, {Integer.MAX_VALUE, 1}, {0, Integer.MIN_VALUE}};
        for (int[] c : calls) {
            act(x, 0, 0, 7, 7, 10);
            act(x, c[0], c[1], 7, 0);
            Due.due("no trace", x.trace(0), -1);
        }
        act(x, 0, 2, 7, 14 ^ 2, 12, 11, 10, 10);
        act(x, 0, 0, 7, 7, 10);
        Due.due("of an earlier act", x.trace(1), -1);
        Due.due("far behind", x.trace(20), -1);
        Due.due("farthest", x.trace(Integer.MAX_VALUE), -1);
        Due.due("least", x.trace(Integer.MIN_VALUE), -1);
        Due.refusals(x, 0, 0, 0, 0, 0, 0, 0);
    }
}
