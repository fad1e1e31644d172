/** Promises 1 to 8: a new object, and what SHELVES hold. */
public final class ShelvesTest {
    public static void main(String[] args) {
        newObject();
        row();
        set();
        copy();
        element();
        showAndHolds();
        says();
        Due.finish();
    }

    private static void newObject() {
        NoFartherThanAThrow x = new NoFartherThanAThrow();
        int[] first = {0, 0, 0, 60, 0, 0, 0, 1, 0, 0, -1, 0, 0, 0, 0, 0, 0, 0, -1};
        for (int what = 0; what < first.length; what++) {
            Due.due("new status(" + what + ")", x.status(what), first[what]);
        }
        for (int s = 0; s < 8; s++) {
            Due.due("new holds(" + s + ")", x.holds(s), -1);
        }
        Due.due("new fault", x.fault(), -1);
        Due.due("new trace", x.trace(0), -1);
        Due.due("new thingOf", x.thingOf(0, 0), -5);
        Due.due("new manOf", x.manOf(0, 0), -5);
        Due.due("new wantOf", x.wantOf(0, 0), -5);
        Due.due("new restore", x.restore(), -6);
    }

    private static void row() {
        NoFartherThanAThrow x = new NoFartherThanAThrow();
        Due.due("shelf -1", x.row(-1, 9, -1), -1);
        Due.due("shelf 8", x.row(8, 0, 1), -1);
        Due.due("n -1 before the sort", x.row(0, 9, -1), -4);
        Due.due("sort -1", x.row(0, -1, 1), -6);
        Due.due("sort 4 before the room", x.row(0, 4, 161), -6);
        Due.due("n 161", x.row(0, 3, 161), -7);
        Due.refusals(x, 2, 0, 0, 1, 0, 2, 1);
        Due.due("refused: nothing there", x.holds(0), -1);
        Due.due("n 160", x.row(7, 3, 160), 1);
        Due.due("holds longs", x.holds(7), 103);
        Due.due("its first", x.set(7, 0, 8), 1);
        Due.due("its last", x.set(7, 159, 7), 1);
        Due.due("behind it", x.set(7, 160, 7), -5);
        Due.due("n 0", x.row(6, 0, 0), 1);
        Due.due("holds bytes", x.holds(6), 100);
        Due.due("no element", x.set(6, 0, 1), -5);
        Due.due("a new one for it", x.row(7, 2, 160), 1);
        Due.due("all 0 again", x.element(7, 159), 0);
        Due.due("the first too", x.element(7, 0), 0);
        Due.due("holds ints", x.holds(7), 102);
        x.thing(0, 1, 1, 0);
        x.show(7, 0);
        Due.due("a row for a thing", x.row(7, 1, 2), 1);
        Due.due("holds shorts", x.holds(7), 101);
    }

    private static void set() {
        NoFartherThanAThrow x = new NoFartherThanAThrow();
        Due.due("no shelf", x.set(8, 0, 1), -1);
        Due.due("no shelf", x.set(-1, 0, 1), -1);
        Due.due("nothing", x.set(0, 0, 1), -3);
        x.thing(0, 1, 1, 0);
        x.show(0, 0);
        Due.due("a thing", x.set(0, 0, 1), -2);
        long big = 0x123456789ABCDEF0L;
        long[] cut = {(byte) 0xF0, (short) 0xDEF0, 0x9ABCDEF0, big};
        for (int sort = 0; sort < 4; sort++) {
            x.row(1, sort, 3);
            Due.due("set", x.set(1, 2, big), 1);
            Due.due("lowest bits, sort " + sort, x.element(1, 2), cut[sort]);
            Due.due("the others", x.element(1, 1), 0);
            x.set(1, 0, 200);
            Due.due("200, sort " + sort, x.element(1, 0), sort == 0 ? -56 : 200);
        }
        Due.due("element -1", x.set(1, -1, 1), -5);
        Due.due("element 3", x.set(1, 3, 1), -5);
        Due.due("far element", x.set(1, Integer.MAX_VALUE, 1), -5);
        Due.due("far below", x.set(1, Integer.MIN_VALUE, 1), -5);
        Due.refusals(x, 2, 1, 1, 0, 4, 0, 0);
    }

    private static void copy() {
        NoFartherThanAThrow x = new NoFartherThanAThrow();
        Due.numbers(x, 0, 2, 1, 2, 3, 4, 5);
        Due.numbers(x, 1, 2, 9, 9, 9);
        Due.numbers(x, 2, 1, 7, 7, 7);
        x.thing(0, 1, 1, 0);
        x.show(3, 0);
        Due.due("no shelf p", x.copy(-1, 3, 0, 0, 1), -1);
        Due.due("no shelf q", x.copy(3, 8, 0, 0, 1), -1);
        Due.due("thing before nothing", x.copy(3, 4, 0, 0, 1), -2);
        Due.due("nothing and thing", x.copy(4, 3, 0, 0, 1), -2);
        Due.due("two sorts before n", x.copy(0, 2, 0, 0, -1), -2);
        Due.due("p nothing", x.copy(4, 0, 0, 0, -1), -3);
        Due.due("q nothing", x.copy(0, 4, 0, 0, -1), -3);
        Due.due("n below 0", x.copy(0, 1, -1, 0, -1), -4);
        Due.due("i below 0", x.copy(0, 1, -1, 0, 1), -5);
        Due.due("j below 0", x.copy(0, 1, 0, -1, 1), -5);
        Due.due("end of p", x.copy(1, 0, 1, 0, 3), -5);
        Due.due("end of q", x.copy(0, 1, 0, 1, 3), -5);
        Due.due("an end beyond int", x.copy(0, 1, Integer.MAX_VALUE, 0, Integer.MAX_VALUE), -5);
        Due.due("no elements from behind the end", x.copy(0, 1, 6, 0, 0), -5);
        Due.refusals(x, 2, 3, 2, 1, 6, 0, 0);
        Due.elements(x, 0, 1, 2, 3, 4, 5);
        Due.due("none, at the ends", x.copy(0, 1, 5, 3, 0), 1);
        Due.due("three", x.copy(0, 1, 2, 0, 3), 1);
        Due.elements(x, 1, 3, 4, 5);
        Due.due("onto itself, onward", x.copy(0, 0, 0, 1, 4), 1);
        Due.elements(x, 0, 1, 1, 2, 3, 4);
        Due.due("onto itself, back", x.copy(0, 0, 2, 0, 3), 1);
        Due.elements(x, 0, 2, 3, 4, 3, 4);
    }

    private static void element() {
        NoFartherThanAThrow x = new NoFartherThanAThrow();
        Due.numbers(x, 0, 3, Long.MIN_VALUE, -1);
        Due.due("least", x.element(0, 0), Long.MIN_VALUE);
        Due.due("no such element", x.element(0, 2), 0);
        Due.due("below", x.element(0, -1), 0);
        Due.due("nothing", x.element(1, 0), 0);
        Due.due("no shelf", x.element(8, 0), 0);
        Due.due("no shelf", x.element(-1, 0), 0);
        x.thing(0, 5, 1, 0);
        x.show(0, 0);
        Due.due("a thing has none", x.element(0, 0), 0);
        Due.refusals(x, 0, 0, 0, 0, 0, 0, 0);
    }

    private static void showAndHolds() {
        NoFartherThanAThrow x = new NoFartherThanAThrow();
        x.thing(0, 1, 1, 0);
        x.thing(0, 2, 1, 0);
        Due.due("show", x.show(0, 1), 1);
        Due.due("holds 1", x.holds(0), 1);
        Due.due("show 0", x.show(0, 0), 1);
        Due.due("holds 0", x.holds(0), 0);
        Due.due("no such thing", x.show(0, 2), -1);
        Due.due("no such thing", x.show(0, -2), -1);
        Due.due("no shelf", x.show(8, 0), -1);
        Due.due("no shelf", x.show(-1, -1), -1);
        Due.refusals(x, 4, 0, 0, 0, 0, 0, 0);
        Due.due("it stayed", x.holds(0), 0);
        Due.due("nothing then", x.show(0, -1), 0);
        Due.due("holds nothing", x.holds(0), -1);
        x.row(1, 2, 1);
        Due.due("holds ints", x.holds(1), 102);
        Due.due("nothing for a row", x.show(1, -1), 0);
        Due.due("no element", x.set(1, 0, 1), -3);
        Due.due("holds of no shelf", x.holds(8), -1);
        Due.due("holds of no shelf", x.holds(-1), -1);
        Due.refusals(x, 4, 0, 1, 0, 0, 0, 0);
    }

    private static void says() {
        NoFartherThanAThrow x = new NoFartherThanAThrow();
        for (int kind = 0; kind < 7; kind++) {
            x.thing(kind, 10 + kind, 2 + kind, 0);
            x.show(kind, kind);
        }
        x.ask(1, 3);
        // by the KIND of the thing, by the KIND that it is taken for
        int[][] said = {
            {10, -2, -2, -2, -2, -2, -2},
            {11, 3, -2, -2, -2, -2, -2},
            {12, -2, 10, -2, -2, -2, -2},   // 90 / 12 = 7, and wind 3
            {13, -2, 4, 4, -2, -2, -2},     // 90 / 13 = 6, and 3, halved
            {14, -2, -2, -2, 0, -2, -2},
            {15, 7, -2, -2, -2, 7, -2},
            {16, 8, -2, -2, -2, -2, 8}
        };
        int others = 0;
        for (int s = 0; s < 7; s++) {
            for (int kind = 0; kind < 7; kind++) {
                Due.due("says(" + s + ", " + kind + ")", x.says(s, kind), said[s][kind]);
                others += said[s][kind] == -2 ? 1 : 0;
            }
        }
        Due.due("kind -1", x.says(0, -1), -1);
        Due.due("kind 7", x.says(0, 7), -1);
        Due.due("no shelf", x.says(8, 0), -1);
        Due.due("nothing", x.says(7, 0), -3);
        x.row(7, 0, 1);
        Due.due("a row", x.says(7, 0), -2);
        Due.refusals(x, 3, others + 1, 1, 0, 0, 0, 0);
        breakGlass(x, 4);
        Due.due("broken", x.says(4, 4), 1);
        Due.due("broken, as a thing", x.says(4, 0), 14);
    }

    /** Over 5 steps a throw is CAUGHT by 9 tenths: seeds are tried until one isn't. */
    private static void breakGlass(NoFartherThanAThrow x, int glass) {
        x.man(99);
        for (int seed = 0; seed < 100 && x.thingOf(glass, 5) == 0; seed++) {
            x.seed(seed);
            x.toss(0, glass, 5);
            x.night();
            x.night();
        }
        Due.due("it broke", x.thingOf(glass, 5), 1);
    }
}
