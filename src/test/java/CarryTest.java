/** Promises 20 to 23: FAR, by what a THING CAN'T be CARRIED, a CARRY in truth, told moves judged. */
public final class CarryTest {
    public static void main(String[] args) {
        far();
        farEdges();
        wrong();
        carry();
        tired();
        judge();
        judgeTired();
        Due.finish();
    }

    private static void far() {
        NoFartherThanAThrow x = new NoFartherThanAThrow();
        Due.due("nobody", x.far(0, 0), -1);
        for (int kind = 0; kind < 7; kind++) {
            x.thing(kind, 7, 3, 0);
        }
        Due.due("no man", x.far(0, 0), -1);
        x.man(15);
        Due.due("no thing", x.far(0, 7), -1);
        Due.due("thing -1", x.far(0, -1), -1);
        Due.due("man -1", x.far(-1, 0), -1);
        Due.due("man 1", x.far(1, 0), -1);
        Due.refusals(x, 6, 0, 0, 0, 0, 0, 0);
        // CAN: 150 / 7 = 21; PARTED: 150 / 3 = 50
        int[] still = {21, 10, 21, 10, 5, 25, 13};
        int[] windy = {21, 10, 25, 12, 5, 25, 13};
        for (int kind = 0; kind < 7; kind++) {
            Due.due("far of " + kind, x.far(0, kind), still[kind]);
        }
        x.ask(1, 4);
        for (int kind = 0; kind < 7; kind++) {
            Due.due("far of " + kind + " in the wind", x.far(0, kind), windy[kind]);
        }
    }

    private static void farEdges() {
        NoFartherThanAThrow x = new NoFartherThanAThrow();
        for (int kind = 0; kind < 7; kind++) {
            x.thing(kind, 1, 9, 0);
        }
        x.man(99);
        x.man(7);
        x.ask(1, 9);
        int[] most = {40, 40, 49, 24, 5, 40, 49};
        int[] less = {40, 35, 49, 24, 5, 35, 44};
        for (int kind = 0; kind < 7; kind++) {
            Due.due("most of " + kind, x.far(0, kind), most[kind]);
            Due.due("half of 70 of " + kind, x.far(1, kind), less[kind]);
        }
        NoFartherThanAThrow y = new NoFartherThanAThrow();
        for (int kind = 0; kind < 7; kind++) {
            y.thing(kind, 99, 2, 0);
        }
        y.man(9);
        y.ask(1, 3);
        // CAN: 90 / 99 = 0; PARTED: 90 / 50 = 1, halved 0
        int[] least = {0, 0, 3, 1, 0, 0, 2};
        for (int kind = 0; kind < 7; kind++) {
            Due.due("least of " + kind, y.far(0, kind), least[kind]);
        }
    }

    private static void wrong() {
        NoFartherThanAThrow x = new NoFartherThanAThrow();
        Due.due("nobody", x.wrong(0, 0, 1), -1);
        x.thing(0, 10, 1, 10);
        Due.due("no man", x.wrong(0, 0, 1), -1);
        x.man(12);
        Due.due("no thing", x.wrong(0, 1, 1), -1);
        Due.due("thing -1", x.wrong(0, -1, 1), -1);
        x.man(99);
        x.river(15, 20);
        int[][] asked = {{0, 4}, {1, 0}, {5, 0}, {6, 3}, {9, 3}, {10, 0}, {12, 0}, {13, 4}, {50, 4}, {51, 2}, {-1, 0},
            {-10, 0}, {-11, 2}, {Integer.MAX_VALUE, 2}, {Integer.MIN_VALUE, 2}};
        for (int[] a : asked) {
            Due.due("wrong(0, 0, " + a[0] + ")", x.wrong(0, 0, a[0]), a[1]);
        }
        Due.due("40 at most", x.wrong(1, 0, 40), 0);
        Due.due("41", x.wrong(1, 0, 41), 4);
        Due.due("carry", x.carry(0, 0, 5), 15);
        int[] hadLast = {0, 1, 3, 46, -1, Integer.MAX_VALUE, Integer.MIN_VALUE};
        for (int d : hadLast) {
            Due.due("had it last, " + d, x.wrong(0, 0, d), 1);
        }
        Due.due("the other", x.wrong(1, 0, 3), 3);
        Due.due("back", x.wrong(1, 0, -15), 0);
        brokenLast();
    }

    private static void brokenLast() {
        NoFartherThanAThrow x = new NoFartherThanAThrow();
        x.thing(4, 20, 1, 10);
        x.man(6);
        x.river(12, 14);
        for (int seed = 0; seed < 100 && x.thingOf(0, 5) == 0; seed++) {
            x.seed(seed);
            x.image();
            if (x.toss(0, 0, 4) == 1) {
                x.restore();
            }
        }
        Due.due("it broke", x.thingOf(0, 5), 1);
        Due.due("where", x.thingOf(0, 3), 14);
        Due.due("far", x.far(0, 0), 1);
        Due.due("broken", x.wrong(0, 0, 1), 5);
        Due.due("river first", x.wrong(0, 0, -1), 3);
        Due.due("off first", x.wrong(0, 0, 47), 2);
        Due.due("too far first", x.wrong(0, 0, 2), 4);
        Due.due("0 first", x.wrong(0, 0, 0), 4);
        Due.due("carry", x.carry(0, 0, 1), -6);
        Due.numbers(x, 0, 0, 0, 1);
        Due.due("judge", x.judge(0, 0, 1), 0);
    }

    private static void carry() {
        NoFartherThanAThrow x = new NoFartherThanAThrow();
        Due.due("nobody", x.carry(0, 0, 1), -1);
        x.thing(0, 29, 1, 10);
        x.man(30);
        x.man(60);
        Due.due("no thing", x.carry(0, 1, 1), -1);
        Due.due("no man", x.carry(2, 0, 1), -1);
        Due.due("0 steps", x.carry(0, 0, 0), -6);
        Due.due("too far", x.carry(0, 0, 11), -6);
        Due.due("where it was", x.thingOf(0, 3), 10);
        Due.due("none yet", x.status(9), 0);
        Due.due("carry", x.carry(0, 0, 10), 20);
        Due.due("where it is", x.thingOf(0, 3), 20);
        Due.due("last", x.thingOf(0, 4), 0);
        Due.due("tired", x.manOf(0, 1), 3);
        Due.due("twice running", x.carry(0, 0, 1), -6);
        Due.due("back", x.carry(1, 0, -20), 0);
        Due.due("last", x.thingOf(0, 4), 1);
        Due.due("again", x.carry(0, 0, 9), 9);
        Due.due("tired", x.manOf(0, 1), 6);
        Due.due("three", x.status(9), 3);
        Due.refusals(x, 3, 0, 0, 0, 0, 3, 0);
    }

    private static void tired() {
        NoFartherThanAThrow x = new NoFartherThanAThrow();
        x.thing(6, 99, 9, 0);
        x.man(20);
        x.man(99);
        // ROUND goes 9 at least, however TIRED they are
        for (int i = 0; i < 20; i++) {
            int man = i % 2;
            Due.due("carry " + i, x.carry(man, 0, man == 0 ? 9 : -9), man == 0 ? 9 : 0);
            Due.due("tired " + i, x.manOf(man, 1), Math.min(99, 10 * (i / 2 + 1)));
        }
        Due.due("99 at most", x.manOf(0, 1), 99);
        Due.due("strength less tired is not below 0", x.far(0, 0), 9);
        x.thing(0, 1, 1, 0);
        Due.due("nor for others", x.far(0, 1), 0);
        Due.due("carries", x.status(9), 20);
    }

    private static void judge() {
        NoFartherThanAThrow x = new NoFartherThanAThrow();
        x.thing(0, 10, 1, 10);
        x.man(5);
        x.man(6);
        Due.numbers(x, 0, 0, 0, 5, 1, -6, 0, 4, 1, 1);
        Due.due("no thing", x.judge(1, 9, -1), -1);
        Due.due("thing -1", x.judge(-1, 0, 0), -1);
        Due.due("no shelf", x.judge(0, 8, -1), -1);
        Due.due("nothing", x.judge(0, 1, -1), -3);
        x.show(1, 0);
        Due.due("a thing", x.judge(0, 1, -1), -2);
        Due.due("n", x.judge(0, 0, -1), -4);
        Due.due("fewer elements", x.judge(0, 0, 5), -5);
        Due.due("far more", x.judge(0, 0, Integer.MAX_VALUE), -5);
        x.row(2, 0, 160);
        Due.due("n 41", x.judge(0, 2, 41), -6);
        Due.due("n 80", x.judge(0, 2, 80), -6);
        Due.due("n 81", x.judge(0, 2, 81), -5);
        Due.due("n 40", x.judge(0, 2, 40), 0);
        Due.refusals(x, 3, 1, 1, 1, 3, 2, 0);
        Due.due("no moves", x.judge(0, 0, 0), -1);
        // TIRED 2 by each: 5, then 6, then 5 - 2 is 3: 4 is too far
        Due.due("one", x.judge(0, 0, 1), -1);
        Due.due("two", x.judge(0, 0, 2), -1);
        Due.due("three", x.judge(0, 0, 3), 2);
        Due.due("four", x.judge(0, 0, 4), 2);
        Due.due("it is where it was", x.thingOf(0, 3), 10);
        Due.due("nobody had it", x.thingOf(0, 4), -1);
        Due.due("nobody is tired", x.manOf(0, 1), 0);
        Due.due("nothing in truth", x.status(9), 0);
        Due.numbers(x, 0, 3, 0, 5, 0, -1);
        Due.due("twice running", x.judge(0, 0, 2), 1);
        Due.numbers(x, 0, 3, 1, -6, 2, 1);
        Due.due("no such one", x.judge(0, 0, 2), 1);
        Due.numbers(x, 0, 3, -1, 1);
        Due.due("nobody", x.judge(0, 0, 1), 0);
        Due.numbers(x, 0, 3, 1L << 32, (1L << 32) + 5, (7L << 32) + 1, (1L << 32) - 6);
        Due.due("the lowest bits of longs", x.judge(0, 0, 2), -1);
        Due.numbers(x, 0, 2, 0, 5, 1, Integer.MIN_VALUE);
        Due.due("as far back as can be", x.judge(0, 0, 2), 1);
        x.carry(0, 0, 1);
        Due.numbers(x, 0, 0, 0, 1);
        Due.due("who had it in truth", x.judge(0, 0, 1), 0);
    }

    /** What is told of moves is what comes of them in truth. */
    private static void judgeTired() {
        NoFartherThanAThrow x = new NoFartherThanAThrow();
        x.thing(0, 25, 1, 0);
        x.man(14);
        x.man(15);
        long[] moves = new long[40];
        for (int i = 0; i < 40; i += 2) {
            moves[i] = i / 2 % 2;
            moves[i + 1] = 3;
        }
        Due.numbers(x, 0, 0, moves);
        int told = x.judge(0, 0, 20);
        int came = 0;
        while (came < 20 && x.carry((int) moves[2 * came], 0, 3) >= 0) {
            came++;
        }
        Due.due("in truth: TIRED 3 each time, 80 / 25 is 3, 50 / 25 is 2", came, 6);
        Due.due("told", told, came);
    }
}
