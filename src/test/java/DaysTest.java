/** Promises 38 to 40 and 43 to 45: what is cut up, nights, the SEED, THE IMAGE, status. */
public final class DaysTest {
    public static void main(String[] args) {
        part();
        night();
        seed();
        image();
        shelvesOfAnImage();
        status();
        Due.finish();
    }

    private static void part() {
        NoFartherThanAThrow x = new NoFartherThanAThrow();
        Due.due("no thing", x.part(0), -1);
        x.thing(5, 30, 4, 7);
        x.thing(1, 30, 4, 7);
        x.thing(5, 9, 1, 3);
        x.man(99);
        x.want(0, 9, 5);
        x.show(0, 0);
        x.show(1, 3);
        Due.due("a heavy one", x.part(1), -2);
        Due.due("no thing", x.part(3), -1);
        Due.due("thing -1", x.part(-1), -1);
        Due.due("carry", x.carry(0, 0, 1), 8);
        Due.due("four for one", x.part(0), 6);
        int[] each = {0, 8, 1, 8, 0, 0};
        for (int what = 0; what < 6; what++) {
            Due.due("the first, " + what, x.thingOf(0, what), each[what]);
            for (int thing = 3; thing < 6; thing++) {
                Due.due("the others, " + what, x.thingOf(thing, what), each[what]);
            }
        }
        Due.due("in between", x.thingOf(1, 1), 30);
        Due.due("a shelf holds its number", x.holds(0), 0);
        Due.due("and says what it is now", x.says(0, 0), 8);
        Due.due("no more a parted one", x.says(0, 5), -2);
        Due.due("the want stays", x.wantOf(0, 0), 0);
        Due.due("once", x.part(0), -2);
        Due.due("one for one", x.part(2), 6);
        Due.due("a thing", x.thingOf(2, 0), 0);
        Due.due("of its weight", x.thingOf(2, 1), 9);
        x.thing(5, 7, 3, 0);
        Due.due("no room for two more", x.part(6), -7);
        Due.due("as it was", x.thingOf(6, 0), 5);
        Due.refusals(x, 4, 3, 0, 0, 0, 0, 1);
        NoFartherThanAThrow y = new NoFartherThanAThrow();
        y.thing(5, 99, 8, 60);
        Due.due("eight", y.part(0), 8);
        Due.due("rounded up", y.thingOf(7, 1), 13);
        NoFartherThanAThrow z = new NoFartherThanAThrow();
        z.thing(5, 99, 9, 60);
        Due.due("nine", z.part(0), -7);
        NoFartherThanAThrow w = new NoFartherThanAThrow();
        for (int i = 0; i < 8; i++) {
            w.thing(5, 3, 1, 0);
        }
        Due.due("one for one when all is full", w.part(7), 8);
        NoFartherThanAThrow v = new NoFartherThanAThrow();
        v.thing(5, 1, 9, 0);
        v.thing(5, 1, 7, 0);
        Due.due("light parts", v.part(1), 8);
        Due.due("weigh 1", v.thingOf(7, 1), 1);
    }

    private static void night() {
        NoFartherThanAThrow x = new NoFartherThanAThrow();
        Due.due("nobody", x.night(), 0);
        x.thing(0, 40, 1, 0);
        x.thing(0, 10, 1, 5);
        x.man(90);
        x.man(50);
        x.man(60);
        x.carry(0, 0, 3);
        x.carry(1, 1, 2);
        Due.due("tired 5", x.manOf(0, 1), 5);
        Due.due("tired 2", x.manOf(1, 1), 2);
        Due.due("2 and 1", x.night(), 3);
        Due.due("half of 5", x.manOf(0, 1), 2);
        Due.due("half of 2", x.manOf(1, 1), 1);
        Due.due("half of 0", x.manOf(2, 1), 0);
        Due.due("last", x.thingOf(0, 4), -1);
        Due.due("last of the other", x.thingOf(1, 4), -1);
        Due.due("who had it may again", x.wrong(0, 0, 1), 0);
        Due.due("1 and 0", x.night(), 1);
        Due.due("where it was", x.thingOf(0, 3), 3);
    }

    private static void seed() {
        NoFartherThanAThrow x = new NoFartherThanAThrow();
        Due.due("at first", x.seed(Integer.MIN_VALUE), 1);
        Due.due("below 0", x.seed(-1), Integer.MIN_VALUE);
        Due.due("-1", x.seed(0), -1);
        Due.due("status", x.status(7), 0);
        Due.refusals(x, 0, 0, 0, 0, 0, 0, 0);
    }

    private static void image() {
        NoFartherThanAThrow x = new NoFartherThanAThrow();
        Due.due("none", x.restore(), -6);
        Due.refusals(x, 0, 0, 0, 0, 0, 1, 0);
        Due.due("of nothing", x.image(), 0);
        x.thing(4, 20, 3, 4);
        x.man(30);
        x.want(0, 9, 2);
        x.ask(0, 80);
        x.ask(1, 4);
        x.river(20, 30);
        x.seed(99);
        x.carry(0, 0, 2);
        Due.due("of one", x.image(), 1);
        int[] before = all(x);
        x.night();
        x.thing(0, 1, 1, 0);
        x.man(5);
        x.want(1, 8, 2);
        x.ask(0, 90);
        x.ask(1, 5);
        x.river(40, 50);
        for (int i = 0; i < 30 && x.thingOf(0, 5) == 0; i++) {
            x.toss(0, 0, 4);
            x.night();
        }
        Due.numbers(x, 2, 0, 5, 6);
        Due.text(x, 3, 0, "x");
        x.valley(3);
        x.act(0, 0, 1);
        Due.due("restore", x.restore(), 1);
        int[] after = all(x);
        for (int i = 0; i < before.length; i++) {
            Due.due("as it was, " + i, after[i], before[i]);
        }
        Due.elements(x, 2, 5, 6);
        Due.due("the fault stays", x.fault(), 0);
        Due.due("the trace stays", x.trace(0), 70);
        Due.due("bodies stay", x.status(8), 2);
        Due.due("refusals stay", x.status(16) >= 2 ? 1 : 0, 1);
        x.man(7);
        Due.due("again", x.restore(), 1);
        Due.due("one", x.status(1), 1);
    }

    private static int[] all(NoFartherThanAThrow x) {
        int[] told = new int[19];
        for (int what = 0; what < 8; what++) {
            told[what] = x.status(what);
        }
        told[8] = x.status(9);
        for (int what = 0; what < 6; what++) {
            told[9 + what] = x.thingOf(0, what);
        }
        told[15] = x.manOf(0, 0);
        told[16] = x.manOf(0, 1);
        told[17] = x.wantOf(0, 1);
        told[18] = x.wantOf(0, 2);
        return told;
    }

    private static void shelvesOfAnImage() {
        NoFartherThanAThrow x = new NoFartherThanAThrow();
        x.thing(0, 5, 1, 0);
        x.image();
        x.thing(0, 6, 1, 0);
        x.thing(0, 7, 1, 0);
        x.show(0, 0);
        x.show(1, 1);
        x.show(7, 2);
        x.row(3, 1, 4);
        Due.due("restore", x.restore(), 1);
        Due.due("it is there", x.holds(0), 0);
        Due.due("nothing", x.holds(1), -1);
        Due.due("nothing", x.holds(7), -1);
        Due.due("a row", x.holds(3), 101);
        x.thing(0, 8, 1, 0);
        Due.due("nothing still", x.holds(1), -1);
        Due.due("nothing to say", x.says(1, 0), -3);
        x.show(0, 1);
        x.show(2, 0);
        Due.due("again", x.restore(), 1);
        Due.due("nothing in 0", x.holds(0), -1);
        Due.due("there in 2", x.holds(2), 0);
    }

    private static void status() {
        NoFartherThanAThrow x = new NoFartherThanAThrow();
        x.thing(4, 5, 1, 0);
        x.man(9);
        x.man(9);
        x.want(0, 1, 1);
        x.want(0, 1, 1);
        x.want(0, 1, 1);
        x.ask(0, 70);
        x.ask(1, 6);
        x.river(30, 33);
        x.seed(5);
        x.act(0, 2, 1);
        x.carry(0, 0, 1);
        x.toss(0, 0, 1);
        int[] due = {1, 2, 3, 70, 30, 33, 6, 5 * 1103515245 + 12345, 7, 2};
        for (int what = 0; what < due.length; what++) {
            Due.due("status(" + what + ")", x.status(what), due[what]);
        }
        x.far(9, 9);
        x.show(0, 0);
        x.set(0, 0, 0);
        x.set(1, 0, 0);
        x.row(0, 0, -1);
        x.thingOf(9, 9);
        x.man(0);
        x.row(0, 0, 999);
        Due.refusals(x, 1, 1, 1, 1, 1, 1, 1);
        x.given(9);
        x.mill(0, 0, 0);
        x.helps(0, 0, 1, 0);
        x.handovers(0, 0);
        x.cast(9, 9);
        Due.refusals(x, 4, 1, 1, 1, 1, 3, 1);
        int[] none = {-1, 10, 18, Integer.MAX_VALUE, Integer.MIN_VALUE};
        for (int what : none) {
            Due.due("status(" + what + ")", x.status(what), -1);
        }
        Due.refusals(x, 4, 1, 1, 1, 1, 3, 1);
    }
}
