/** Promises 24 to 28 and 31 to 33: standing rows, handovers, mills. */
public final class RowsTest {
    public static void main(String[] args) {
        end();
        doesAndFewest();
        order();
        river();
        handovers();
        mill();
        weakest();
        helps();
        Due.finish();
    }

    /** A THING of WEIGHT 10 at STEP 2: FAR is STRENGTH. */
    private static NoFartherThanAThrow three() {
        NoFartherThanAThrow x = new NoFartherThanAThrow();
        x.thing(0, 10, 1, 2);
        x.man(5);
        x.man(8);
        x.man(3);
        return x;
    }

    private static void end() {
        NoFartherThanAThrow x = three();
        int[] ends = {2, 7, 10, 15, 5, 10, 13, 18};
        for (int set = 0; set < 8; set++) {
            Due.due("end(0, " + set + ")", x.end(0, set), ends[set]);
        }
        Due.due("bits beyond", x.end(0, 8), -1);
        Due.due("below", x.end(0, -1), -1);
        Due.due("least", x.end(0, Integer.MIN_VALUE), -1);
        Due.due("most", x.end(0, Integer.MAX_VALUE), -1);
        Due.due("no thing", x.end(1, 0), -1);
        Due.due("thing -1", x.end(-1, 0), -1);
        Due.refusals(x, 6, 0, 0, 0, 0, 0, 0);
        x.ask(0, 12);
        Due.due("LONG is the end", x.end(0, 7), 12);
        Due.due("not so far", x.end(0, 5), 10);
        x.carry(1, 0, 8);
        Due.due("where it is, and who had it does not matter", x.end(0, 2), 12);
        x.ask(0, 60);
        Due.due("who is tired has less", x.end(0, 2), 16);
        NoFartherThanAThrow y = new NoFartherThanAThrow();
        y.thing(0, 1, 1, 60);
        Due.due("of no people", y.end(0, 0), 60);
        Due.due("bits beyond none", y.end(0, 1), -1);
        for (int i = 0; i < 8; i++) {
            y.man(1);
        }
        Due.due("eight people", y.end(0, 255), 60);
        Due.due("bits beyond eight", y.end(0, 256), -1);
    }

    private static void doesAndFewest() {
        NoFartherThanAThrow x = three();
        Due.due("does 18", x.does(0, 7, 18), 1);
        Due.due("does 19", x.does(0, 7, 19), 0);
        Due.due("one of all is enough", x.does(0, 7, 3), 1);
        Due.due("empty", x.does(0, 0, 3), 0);
        Due.due("no thing", x.does(1, 9, 99), -1);
        Due.due("bits beyond", x.does(0, 8, 99), -1);
        Due.due("below", x.does(0, -1, 3), -1);
        Due.due("not farther", x.does(0, 7, 2), -6);
        Due.due("behind", x.does(0, 7, 1), -6);
        Due.due("below 0", x.does(0, 7, -1), -6);
        Due.due("beyond LONG", x.does(0, 7, 61), -6);
        Due.due("LONG", x.does(0, 7, 60), 0);
        Due.refusals(x, 3, 0, 0, 0, 0, 4, 0);
        int[][] fewest = {{3, 1}, {5, 1}, {7, 1}, {8, 2}, {10, 2}, {11, 3}, {13, 3}, {14, 3}, {15, 3}, {16, 7}, {18, 7}};
        for (int[] f : fewest) {
            Due.due("fewest(0, " + f[0] + ")", x.fewest(0, f[0]), f[1]);
        }
        Due.due("none does", x.fewest(0, 19), -5);
        Due.due("no thing", x.fewest(1, -1), -1);
        Due.due("not farther", x.fewest(0, 2), -6);
        Due.due("beyond LONG", x.fewest(0, 61), -6);
        Due.refusals(x, 4, 0, 0, 0, 1, 6, 0);
        NoFartherThanAThrow y = new NoFartherThanAThrow();
        y.thing(0, 10, 1, 0);
        y.man(1);
        y.man(1);
        y.man(4);
        y.man(3);
        y.man(2);
        // 6: 4 and 3 are 12 as bits, 4 and 2 are 20; 1, 1 and 4, 7 as bits, are three
        Due.due("the fewest", y.fewest(0, 6), 12);
        Due.due("the least as bits", y.fewest(0, 5), 5);
        y.river(1, 2);
        y.river(3, 6);
        Due.due("in THE RIVER", y.fewest(0, 4), -6);
        Due.due("in THE RIVER", y.does(0, 31, 5), -6);
        Due.due("at its start", y.does(0, 31, 3), 1);
    }

    private static void order() {
        NoFartherThanAThrow x = three();
        for (int i = 0; i < 3; i++) {
            Due.due("all orders do: " + i, x.order(0, 7, 18, i), i);
        }
        Due.due("place 3", x.order(0, 7, 18, 3), -5);
        Due.due("place -1", x.order(0, 7, 18, -1), -5);
        Due.due("it doesn't do", x.order(0, 5, 18, 0), -5);
        Due.due("of two", x.order(0, 5, 10, 0), 0);
        Due.due("of two", x.order(0, 5, 10, 1), 2);
        Due.due("no third", x.order(0, 5, 10, 2), -5);
        Due.due("empty", x.order(0, 0, 3, 0), -5);
        Due.due("wrong step before place", x.order(0, 7, 2, 9), -6);
        Due.due("no thing", x.order(1, 7, 2, 9), -1);
        Due.due("bits beyond", x.order(0, 8, 2, 9), -1);
        Due.refusals(x, 2, 0, 0, 0, 5, 1, 0);
        NoFartherThanAThrow y = new NoFartherThanAThrow();
        y.thing(0, 10, 1, 0);
        y.river(7, 14);
        y.man(4);
        y.man(9);
        y.man(3);
        // 4, 9: 4, 7; 9 first: 7, 11 is in THE RIVER; 3, 4, 9: 7, 16. So 9 is the last.
        int[] last = {0, 2, 1};
        for (int i = 0; i < 3; i++) {
            Due.due("the widest over THE RIVER: " + i, y.order(0, 7, 16, i), last[i]);
            Due.due("to its end: " + i, y.order(0, 7, 14, i), last[i]);
        }
        Due.due("0 first where any do", y.order(0, 7, 7, 1), 1);
        Due.due("end", y.end(0, 7), 16);
        Due.due("without 3", y.end(0, 3), 7);
    }

    private static void river() {
        NoFartherThanAThrow x = new NoFartherThanAThrow();
        x.thing(0, 10, 1, 10);
        x.man(6);
        x.man(5);
        x.river(10, 16);
        Due.due("from its start over it", x.end(0, 1), 16);
        Due.due("not over it", x.end(0, 2), 10);
        Due.due("over it, then on", x.end(0, 3), 21);
        x.river(12, 16);
        Due.due("to its start", x.end(0, 2), 12);
        Due.due("to its end", x.end(0, 1), 16);
        Due.due("the start, wanted", x.does(0, 2, 12), 1);
        Due.due("less than the start, wanted", x.does(0, 2, 11), 1);
        Due.due("both", x.end(0, 3), 21);
    }

    private static void handovers() {
        NoFartherThanAThrow x = three();
        int[][] due = {{3, 1}, {10, 1}, {11, 2}, {15, 2}, {16, 3}, {23, 3}, {24, 4}, {28, 4}, {29, 5}, {60, 9}};
        for (int[] d : due) {
            Due.due("handovers(0, " + d[0] + ")", x.handovers(0, d[0]), d[1]);
        }
        Due.due("no thing", x.handovers(1, -1), -11);
        Due.due("thing -1", x.handovers(-1, 3), -11);
        Due.due("not farther", x.handovers(0, 2), -16);
        Due.due("beyond LONG", x.handovers(0, 61), -16);
        x.river(20, 30);
        Due.due("in THE RIVER", x.handovers(0, 21), -16);
        Due.due("THE RIVER aside", x.handovers(0, 60), 9);
        Due.refusals(x, 2, 0, 0, 0, 0, 3, 0);
        x.river(0, 0);
        x.carry(1, 0, -1);
        // 8 had it last, and is TIRED: 6 now; 5, 6, 5, 6 ..
        Due.due("not who had it last", x.handovers(0, 7), 2);
        Due.due("5", x.handovers(0, 6), 1);
        Due.due("5, 6, 5", x.handovers(0, 13), 3);
        Due.due("5, 6", x.handovers(0, 12), 2);
        NoFartherThanAThrow y = new NoFartherThanAThrow();
        y.thing(0, 10, 1, 2);
        Due.due("nobody is there", y.handovers(0, 3), -1);
        y.man(5);
        Due.due("one alone, once", y.handovers(0, 7), 1);
        Due.due("not twice running", y.handovers(0, 8), -1);
        y.thing(0, 60, 1, 2);
        Due.due("0 steps are no carry", y.handovers(1, 3), -1);
        y.thing(0, 40, 1, 2);
        y.man(9);
        Due.due("one can, one can't: 2", y.handovers(2, 4), 1);
        Due.due("then 1, then 2", y.handovers(2, 7), 3);
        Due.refusals(y, 0, 0, 0, 0, 0, 0, 0);
        slowHands();
    }

    private static void slowHands() {
        NoFartherThanAThrow x = new NoFartherThanAThrow();
        x.ask(0, 99);
        x.thing(0, 10, 1, 0);
        x.man(1);
        x.man(1);
        Due.due("99 times", x.handovers(0, 99), 99);
        NoFartherThanAThrow z = new NoFartherThanAThrow();
        z.thing(0, 50, 1, 0);
        z.man(4);
        z.man(9);
        Due.due("who can't is no help", z.handovers(0, 2), -1);
        z.carry(1, 0, 1);
        Due.due("nor after who had it last", z.handovers(0, 2), -1);
    }

    private static void mill() {
        NoFartherThanAThrow x = new NoFartherThanAThrow();
        x.thing(0, 10, 1, 0);
        Due.due("6 by 6", x.mill(0, 60, 6), 10);
        Due.due("6 by 7", x.mill(0, 60, 7), 9);
        Due.due("one", x.mill(0, 1, 99), 1);
        Due.due("by 1", x.mill(0, 60, 1), 60);
        x.ask(0, 99);
        Due.due("more than eight", x.mill(0, 99, 1), 99);
        Due.due("no thing", x.mill(1, 0, 0), -11);
        Due.due("thing -1", x.mill(-1, 1, 1), -11);
        Due.due("strength 0", x.mill(0, 9, 0), -16);
        Due.due("strength 100", x.mill(0, 9, 100), -16);
        Due.due("not farther", x.mill(0, 0, 5), -16);
        Due.due("beyond LONG", x.mill(0, 100, 5), -16);
        x.river(10, 20);
        Due.due("in THE RIVER", x.mill(0, 11, 5), -16);
        Due.due("not over THE RIVER", x.mill(0, 20, 9), -1);
        Due.due("to its start", x.mill(0, 10, 9), 2);
        Due.due("over it", x.mill(0, 20, 10), 2);
        Due.due("11 stops at 10", x.mill(0, 22, 11), 3);
        x.thing(1, 30, 1, 0);
        Due.due("too heavy", x.mill(1, 1, 5), -1);
        Due.due("as heavy as can be", x.mill(1, 3, 6), 3);
        Due.refusals(x, 2, 0, 0, 0, 0, 5, 0);
    }

    private static void weakest() {
        NoFartherThanAThrow x = three();
        Due.due("3", x.weakest(0, 7), 2);
        Due.due("5", x.weakest(0, 3), 0);
        Due.due("alone", x.weakest(0, 2), 1);
        Due.due("empty", x.weakest(0, 0), -5);
        Due.due("bits beyond", x.weakest(0, 8), -1);
        Due.due("below", x.weakest(0, -1), -1);
        Due.due("no thing", x.weakest(1, 0), -1);
        Due.refusals(x, 3, 0, 0, 0, 1, 0, 0);
        x.man(3);
        Due.due("the first of two", x.weakest(0, 15), 2);
        x.ask(0, 10);
        Due.due("LONG is the end: the first", x.weakest(0, 15), 0);
    }

    private static void helps() {
        NoFartherThanAThrow x = three();
        Due.due("one more", x.helps(0, 7, 19, 0), 1);
        Due.due("two more", x.helps(0, 7, 20, 2), 2);
        Due.due("eleven", x.helps(0, 1, 18, 0), 11);
        Due.due("40 at most", x.helps(0, 1, 43, 0), -1);
        Due.due("40", x.helps(0, 1, 42, 0), 35);
        Due.due("no thing", x.helps(1, 9, 0, 9), -11);
        Due.due("no thing, all else there", x.helps(1, 7, 19, 0), -11);
        Due.due("bits beyond", x.helps(0, 8, 0, 3), -11);
        Due.due("bits beyond, one of them there", x.helps(0, 15, 60, 0), -11);
        Due.due("below", x.helps(0, -1, 60, 0), -11);
        Due.due("no man", x.helps(0, 7, 0, 3), -11);
        Due.due("man -1", x.helps(0, 7, 19, -1), -11);
        Due.due("man 32", x.helps(0, 7, 19, 32), -11);
        Due.due("not in the set", x.helps(0, 5, 60, 1), -11);
        Due.due("not farther", x.helps(0, 7, 2, 0), -16);
        Due.due("beyond LONG", x.helps(0, 7, 61, 0), -16);
        Due.due("it does", x.helps(0, 7, 18, 0), -16);
        Due.refusals(x, 9, 0, 0, 0, 0, 3, 0);
        NoFartherThanAThrow y = new NoFartherThanAThrow();
        y.thing(0, 99, 1, 0);
        y.man(1);
        y.man(99);
        // 99 more by 99 of 10: 100 by 9.9 is 10
        Due.due("99", y.helps(0, 1, 10, 0), 98);
        Due.due("99 are not enough", y.helps(0, 1, 11, 0), -1);
        Due.due("more than 99 together", y.helps(0, 2, 20, 1), 99);
        Due.due("one over the other", y.helps(0, 3, 20, 0), 98);
        y.carry(1, 0, 10);
        Due.due("tired now, from there", y.helps(0, 2, 20, 1), 10);
    }
}
