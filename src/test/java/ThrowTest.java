/** Promises 34 to 37: throws. */
public final class ThrowTest {
    public static void main(String[] args) {
        caught();
        mean();
        cast();
        tossAndDraws();
        tossRefused();
        glass();
        Due.finish();
    }

    private static void caught() {
        NoFartherThanAThrow x = new NoFartherThanAThrow();
        x.thing(0, 10, 1, 0);
        x.man(20);
        x.man(19);
        for (int d = 1; d <= 40; d++) {
            Due.due("caught over " + d, x.caught(0, 0, d), 10 - d / 4);
            Due.due("caught of 19 over " + d, x.caught(1, 0, d), d <= 38 ? 10 - d / 4 : 0);
        }
        Due.due("40", x.caught(0, 0, 40), 0);
        Due.due("0 steps", x.caught(0, 0, 0), -6);
        Due.due("41 steps", x.caught(0, 0, 41), -6);
        Due.due("back", x.caught(0, 0, -1), -6);
        Due.due("no man", x.caught(2, 0, 0), -1);
        Due.due("no thing", x.caught(0, 1, 0), -1);
        Due.due("below", x.caught(-1, -1, 1), -1);
        Due.refusals(x, 3, 0, 0, 0, 0, 3, 0);
        x.ask(0, 10);
        x.river(2, 5);
        Due.due("off THE WAY", x.caught(0, 0, 12), 7);
        Due.due("in THE RIVER", x.caught(0, 0, 4), 9);
    }

    private static void mean() {
        NoFartherThanAThrow x = new NoFartherThanAThrow();
        x.thing(0, 10, 1, 10);
        x.thing(0, 10, 1, 10);
        x.man(10);
        x.want(0, 15, 33);
        x.want(1, 15, 99);
        x.want(0, 15, 44);
        x.want(0, 31, 80);
        Due.due("9 tenths of 77", x.mean(0, 0, 5), 69);
        Due.due("of the other thing", x.mean(0, 1, 5), 89);
        Due.due("nobody wants it there", x.mean(0, 0, 6), 0);
        Due.due("farther than twice FAR", x.mean(0, 0, 21), 0);
        Due.due("0 steps", x.mean(0, 0, 0), -6);
        Due.due("41 steps", x.mean(0, 0, 41), -6);
        Due.due("no man", x.mean(1, 0, 0), -1);
        Due.due("no thing", x.mean(0, 2, 0), -1);
        Due.refusals(x, 2, 0, 0, 0, 0, 2, 0);
        x.ask(0, 31);
        Due.due("off THE WAY", x.mean(0, 0, 40), 0);
        x.man(11);
        Due.due("LONG: 5 tenths of 80", x.mean(1, 0, 21), 40);
    }

    private static void cast() {
        NoFartherThanAThrow x = new NoFartherThanAThrow();
        x.thing(0, 10, 1, 10);
        x.man(10);
        Due.due("no wants", x.cast(0, 0), -1);
        x.want(0, 10, 99);
        Due.due("wanted where it is", x.cast(0, 0), -1);
        x.want(0, 11, 1);
        // 1 by 10 tenths is 1
        Due.due("one step", x.cast(0, 0), 1);
        x.want(0, 14, 1);
        Due.due("9 tenths of 1 are 0", x.cast(0, 0), 1);
        x.want(0, 30, 20);
        Due.due("5 tenths of 20", x.cast(0, 0), 20);
        Due.due("no man", x.cast(1, 0), -11);
        Due.due("no thing", x.cast(0, 1), -11);
        Due.due("below", x.cast(-1, -1), -11);
        Due.refusals(x, 3, 0, 0, 0, 0, 0, 0);
        NoFartherThanAThrow y = new NoFartherThanAThrow();
        y.thing(0, 10, 1, 0);
        y.man(20);
        y.man(7);
        y.want(0, 8, 10);
        y.want(0, 4, 9);
        y.want(0, 16, 13);
        y.want(0, 36, 99);
        // means: 8, 8, 7, 9
        Due.due("the greatest", y.cast(0, 0), 36);
        Due.due("of several the least", y.cast(1, 0), 4);
        Due.due("nothing is refused", y.status(11), 0);
    }

    private static int nextSeed(int seed) {
        return seed * 1103515245 + 12345;
    }

    private static void tossAndDraws() {
        NoFartherThanAThrow x = new NoFartherThanAThrow();
        x.thing(0, 21, 1, 0);
        x.man(30);
        x.man(60);
        int seed = 1;
        int both = 0;
        for (int i = 0; i < 36; i++) {
            x.image();
            x.carry(1, 0, 1);
            int d = 1 + i % 40;
            int tired = x.manOf(0, 1);
            int due = x.caught(0, 0, d);
            boolean tooFar = d > 2 * x.far(0, 0);
            if (!tooFar) {
                seed = nextSeed(seed);
            }
            int want = tooFar ? -6 : (seed >>> 16) % 10 < due ? 1 : 0;
            Due.due("toss over " + d, x.toss(0, 0, d), want);
            Due.due("seed", x.status(7), seed);
            Due.due("where", x.thingOf(0, 3), tooFar ? 1 : 1 + d);
            Due.due("last", x.thingOf(0, 4), tooFar ? 1 : -1);
            Due.due("never broken", x.thingOf(0, 5), 0);
            Due.due("tired", x.manOf(0, 1), tooFar ? tired : tired + 3);
            Due.due("in truth", x.status(9), tooFar ? 1 : 2);
            both |= want == 1 ? 1 : want == 0 ? 2 : 4;
            x.restore();
            x.seed(seed);
        }
        Due.due("all came about", both, 7);
        Due.due("seed", x.seed(-5), seed);
        x.toss(0, 0, 1);
        Due.due("a seed below 0", x.status(7), nextSeed(-5));
    }

    private static void tossRefused() {
        NoFartherThanAThrow x = new NoFartherThanAThrow();
        x.thing(0, 10, 1, 40);
        x.man(10);
        x.river(50, 55);
        Due.due("no man", x.toss(1, 0, 0), -1);
        Due.due("no thing", x.toss(0, 1, 0), -1);
        Due.due("0 steps", x.toss(0, 0, 0), -6);
        Due.due("back", x.toss(0, 0, -1), -6);
        Due.due("41 steps", x.toss(0, 0, 41), -6);
        Due.due("off THE WAY", x.toss(0, 0, 21), -6);
        Due.due("in THE RIVER", x.toss(0, 0, 11), -6);
        Due.due("in THE RIVER", x.toss(0, 0, 14), -6);
        Due.refusals(x, 2, 0, 0, 0, 0, 6, 0);
        Due.due("no draw", x.status(7), 1);
        Due.due("not tired", x.manOf(0, 1), 0);
        Due.due("none in truth", x.status(9), 0);
        Due.due("to its start", x.toss(0, 0, 10) >= 0 ? 1 : 0, 1);
        Due.due("over it", x.toss(0, 0, 5) >= 0 ? 1 : 0, 1);
        Due.due("to LONG", x.toss(0, 0, 5) >= 0 ? 1 : 0, 1);
        Due.due("where", x.thingOf(0, 3), 60);
        Due.due("farther than twice FAR", x.toss(0, 0, 1), -6);
        NoFartherThanAThrow y = new NoFartherThanAThrow();
        y.thing(0, 10, 1, 0);
        y.man(10);
        y.carry(0, 0, 1);
        Due.due("who had it last may throw it", y.toss(0, 0, 1) >= 0 ? 1 : 0, 1);
        Due.due("last nobody", y.thingOf(0, 4), -1);
        Due.due("twice 6 is too far", y.toss(0, 0, 13), -6);
        Due.due("twice 6", y.toss(0, 0, 12) >= 0 ? 1 : 0, 1);
    }

    private static void glass() {
        NoFartherThanAThrow x = new NoFartherThanAThrow();
        x.thing(4, 9, 1, 0);
        x.man(50);
        x.want(0, 10, 50);
        int broken = 0;
        int whole = 0;
        for (int seed = 0; seed < 40; seed++) {
            x.image();
            x.seed(seed);
            int caught = (nextSeed(seed) >>> 16) % 10 < 8 ? 1 : 0;
            Due.due("glass with " + seed, x.toss(0, 0, 10), caught);
            Due.due("broken", x.thingOf(0, 5), 1 - caught);
            Due.due("there either way", x.thingOf(0, 3), 10);
            Due.due("where it is wanted", x.wantOf(0, 3), 1);
            if (caught == 0) {
                broken++;
                Due.due("broken is not thrown", x.toss(0, 0, 1), -6);
                Due.due("nor carried", x.wrong(0, 0, 1), 5);
                Due.due("a standing row minds not", x.end(0, 1), 15);
                Due.due("nor caught()", x.caught(0, 0, 8), 8);
            } else {
                whole++;
                Due.due("carried", x.wrong(0, 0, 1), 0);
            }
            x.restore();
        }
        Due.due("both came about", broken > 0 && whole > 0 ? 1 : 0, 1);
    }
}
