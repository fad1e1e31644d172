/** Promises 9 to 17: THINGS, PEOPLE, WANTS, LONG, WIND, THE RIVER. */
public final class ThingsTest {
    public static void main(String[] args) {
        thing();
        man();
        men();
        want();
        ask();
        river();
        told();
        Due.finish();
    }

    private static void thing() {
        NoFartherThanAThrow x = new NoFartherThanAThrow();
        x.river(20, 25);
        int[][] wrong = {{0, 0, 1, 0}, {0, 100, 1, 0}, {0, -1, 1, 0}, {0, 1, 0, 0}, {0, 1, 10, 0}, {0, 1, 1, -1},
            {0, 1, 1, 61}, {0, 1, 1, 21}, {0, 1, 1, 24}};
        for (int[] w : wrong) {
            Due.due("thing " + w[1] + " " + w[2] + " " + w[3], x.thing(w[0], w[1], w[2], w[3]), -6);
        }
        Due.due("kind -1", x.thing(-1, 0, 0, -1), -1);
        Due.due("kind 7", x.thing(7, 1, 1, 0), -1);
        Due.refusals(x, 2, 0, 0, 0, 0, wrong.length, 0);
        int[] steps = {0, 60, 20, 25, 1, 19, 26, 59};
        for (int i = 0; i < 8; i++) {
            Due.due("thing " + i, x.thing(i % 7, i == 0 ? 1 : 99, i == 0 ? 1 : 9, steps[i]), i);
            Due.due("step " + i, x.thingOf(i, 3), steps[i]);
        }
        Due.due("the ninth", x.thing(0, 1, 1, 0), -7);
        Due.due("wrong before room", x.thing(0, 0, 1, 0), -6);
        Due.due("kind before room", x.thing(9, 1, 1, 0), -1);
        Due.refusals(x, 3, 0, 0, 0, 0, wrong.length + 1, 1);
        Due.due("eight", x.status(0), 8);
    }

    private static void man() {
        NoFartherThanAThrow x = new NoFartherThanAThrow();
        Due.due("0", x.man(0), -6);
        Due.due("100", x.man(100), -6);
        Due.due("-1", x.man(-1), -6);
        for (int i = 0; i < 8; i++) {
            Due.due("man " + i, x.man(i == 0 ? 1 : 99 - i + 1), i);
        }
        Due.due("the ninth", x.man(5), -7);
        Due.due("wrong before room", x.man(0), -6);
        Due.due("first", x.manOf(0, 0), 1);
        Due.due("second", x.manOf(1, 0), 99);
        Due.due("not tired", x.manOf(1, 1), 0);
        Due.due("eight", x.status(1), 8);
        Due.refusals(x, 0, 0, 0, 0, 0, 4, 1);
    }

    private static void men() {
        NoFartherThanAThrow x = new NoFartherThanAThrow();
        Due.numbers(x, 0, 3, 5, (1L << 32) + 7, 99, 0, 6, 100, -1);
        x.thing(0, 1, 1, 0);
        x.show(1, 0);
        Due.due("no shelf", x.men(-1, 0, -1), -1);
        Due.due("no shelf", x.men(8, 0, 1), -1);
        Due.due("a thing", x.men(1, 0, -1), -2);
        Due.due("nothing", x.men(2, 0, -1), -3);
        Due.due("n", x.men(0, 0, -1), -4);
        Due.due("i", x.men(0, -1, 1), -5);
        Due.due("end", x.men(0, 5, 3), -5);
        Due.due("end beyond int", x.men(0, 1, Integer.MAX_VALUE), -5);
        Due.due("none", x.men(0, 7, 0), 0);
        Due.due("until one that can't be", x.men(0, 0, 7), 3);
        Due.due("of a long the lowest bits", x.manOf(1, 0), 7);
        Due.due("99", x.manOf(2, 0), 99);
        Due.due("100 can't", x.men(0, 5, 2), 0);
        Due.due("-1 can't", x.men(0, 6, 1), 0);
        Due.due("one of several", x.men(0, 4, 2), 1);
        Due.due("6", x.manOf(3, 0), 6);
        Due.numbers(x, 3, 0, 1, 2, 3, 4, 5, 6);
        Due.due("no more than n", x.men(3, 0, 2), 2);
        Due.due("the last of them", x.manOf(5, 0), 2);
        Due.due("until the room ends", x.men(3, 1, 5), 2);
        Due.due("the last", x.manOf(7, 0), 3);
        Due.due("no room", x.men(3, 0, 1), 0);
        Due.refusals(x, 2, 1, 1, 1, 3, 0, 0);
        Due.due("eight", x.status(1), 8);
    }

    private static void want() {
        NoFartherThanAThrow x = new NoFartherThanAThrow();
        x.river(20, 25);
        Due.due("no thing", x.want(0, -1, 0), -1);
        x.thing(0, 1, 1, 3);
        Due.due("no thing", x.want(-1, 1, 0), -1);
        int[][] wrong = {{-1, 0}, {61, 0}, {21, 0}, {24, 0}, {1, -1}, {1, 100}};
        for (int[] w : wrong) {
            Due.due("want " + w[0] + " " + w[1], x.want(0, w[0], w[1]), -6);
        }
        Due.due("want 0", x.want(0, 0, 0), 0);
        Due.due("want 1", x.want(0, 60, 99), 1);
        Due.due("want 2", x.want(0, 20, 5), 2);
        Due.due("want 3", x.want(0, 25, 5), 3);
        Due.due("the fifth", x.want(0, 1, 1), -7);
        Due.due("wrong before room", x.want(0, 21, 1), -6);
        Due.due("thing before room", x.want(1, 1, 1), -1);
        Due.due("four", x.status(2), 4);
        Due.refusals(x, 3, 0, 0, 0, 0, 7, 1);
    }

    private static void ask() {
        NoFartherThanAThrow x = new NoFartherThanAThrow();
        Due.due("what -1", x.ask(-1, 5), -6);
        Due.due("what 2", x.ask(2, 5), -6);
        Due.due("long 0", x.ask(0, 0), -6);
        Due.due("long 100", x.ask(0, 100), -6);
        Due.due("wind -1", x.ask(1, -1), -6);
        Due.due("wind 10", x.ask(1, 10), -6);
        Due.due("long 1", x.ask(0, 1), 60);
        Due.due("it is 1", x.status(3), 1);
        Due.due("long 99", x.ask(0, 99), 1);
        Due.due("wind 9", x.ask(1, 9), 0);
        Due.due("wind 0", x.ask(1, 0), 9);
        Due.due("it is 0", x.status(6), 0);
        x.thing(0, 1, 1, 30);
        Due.due("less than a thing's step", x.ask(0, 29), -6);
        Due.due("a thing's step", x.ask(0, 30), 99);
        x.ask(0, 99);
        x.want(0, 40, 1);
        Due.due("less than a want's step", x.ask(0, 39), -6);
        Due.due("a want's step", x.ask(0, 40), 99);
        x.ask(0, 99);
        x.river(45, 50);
        Due.due("less than TO", x.ask(0, 49), -6);
        Due.due("TO", x.ask(0, 50), 99);
        Due.refusals(x, 0, 0, 0, 0, 0, 9, 0);
        NoFartherThanAThrow y = new NoFartherThanAThrow();
        y.ask(0, 99);
        y.thing(0, 1, 1, 98);
        Due.due("less than 98", y.ask(0, 97), -6);
        y.want(0, 99, 1);
        Due.due("less than 99", y.ask(0, 98), -6);
        Due.due("99", y.ask(0, 99), 99);
    }

    private static void river() {
        NoFartherThanAThrow x = new NoFartherThanAThrow();
        Due.due("from -1", x.river(-1, 5), -6);
        Due.due("from above to", x.river(6, 5), -6);
        Due.due("to above long", x.river(5, 61), -6);
        Due.due("to long", x.river(5, 60), 1);
        Due.due("from", x.status(4), 5);
        Due.due("to", x.status(5), 60);
        Due.due("none", x.river(60, 60), 1);
        x.ask(0, 99);
        Due.due("from 99", x.river(99, 99), 1);
        Due.due("to 100", x.river(99, 100), -6);
        Due.due("both 0", x.river(0, 0), 1);
        x.thing(0, 1, 1, 30);
        Due.due("a thing in it", x.river(29, 31), -6);
        Due.due("a thing at its end", x.river(20, 30), 1);
        Due.due("a thing at its start", x.river(30, 40), 1);
        Due.due("around no step", x.river(30, 31), 1);
        x.want(0, 50, 1);
        Due.due("a want in it", x.river(49, 51), -6);
        Due.due("a want at its end", x.river(40, 50), 1);
        Due.due("a want at its start", x.river(50, 60), 1);
        Due.due("both aside", x.river(30, 50), 1);
        Due.due("it stayed", x.status(4) * 100 + x.status(5), 3050);
        Due.refusals(x, 0, 0, 0, 0, 0, 6, 0);
    }

    private static void told() {
        NoFartherThanAThrow x = new NoFartherThanAThrow();
        x.thing(5, 31, 7, 9);
        x.man(44);
        x.want(0, 9, 12);
        x.want(0, 10, 13);
        int[] thing = {5, 31, 7, 9, -1, 0};
        for (int what = 0; what < thing.length; what++) {
            Due.due("thingOf(0, " + what + ")", x.thingOf(0, what), thing[what]);
        }
        int[] want = {0, 9, 12, 1};
        int[] other = {0, 10, 13, 0};
        for (int what = 0; what < 4; what++) {
            Due.due("wantOf(0, " + what + ")", x.wantOf(0, what), want[what]);
            Due.due("wantOf(1, " + what + ")", x.wantOf(1, what), other[what]);
        }
        Due.due("manOf(0, 0)", x.manOf(0, 0), 44);
        Due.due("manOf(0, 1)", x.manOf(0, 1), 0);
        Due.due("carry", x.carry(0, 0, 1), 10);
        Due.due("last", x.thingOf(0, 4), 0);
        Due.due("tired", x.manOf(0, 1), 4);
        Due.due("not there any more", x.wantOf(0, 3), 0);
        Due.due("there now", x.wantOf(1, 3), 1);
        Due.refusals(x, 0, 0, 0, 0, 0, 0, 0);
        int[] far = {-1, 6, Integer.MAX_VALUE, Integer.MIN_VALUE};
        for (int f : far) {
            Due.due("thingOf what " + f, x.thingOf(0, f), -5);
            Due.due("manOf what " + f, x.manOf(0, f), -5);
            Due.due("wantOf what " + f, x.wantOf(0, f), -5);
            Due.due("no thing " + f, x.thingOf(f, 0), -5);
            Due.due("no man " + f, x.manOf(f, 0), -5);
            Due.due("no want " + f, x.wantOf(f, 3), -5);
        }
        Due.due("manOf what 2", x.manOf(0, 2), -5);
        Due.due("wantOf what 4", x.wantOf(0, 4), -5);
        Due.due("want 2", x.wantOf(2, 3), -5);
        Due.due("man 1", x.manOf(1, 0), -5);
        Due.due("thing 1", x.thingOf(1, 0), -5);
        Due.refusals(x, 0, 0, 0, 0, 29, 0, 0);
    }
}
