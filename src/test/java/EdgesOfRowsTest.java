import java.util.function.IntUnaryOperator;
import java.util.function.LongSupplier;

/** Promises 24 to 28 and 31 to 33, and the Terms of standing rows, handovers and mills: the boundary cases. */
public final class EdgesOfRowsTest {
    private static final int LEAST = Edges.LEAST;
    private static final int MOST = Edges.MOST;
    private static final int NONE = -1;

    public static void main(String[] args) throws IllegalAccessException {
        Edges.run(EdgesOfRowsTest.class);
    }

    /** A THING of WEIGHT 10 (FAR is what STRENGTH is left) at 10, and PEOPLE of these STRENGTHS. */
    private static NoFartherThanAThrow row(int... strengths) {
        NoFartherThanAThrow x = new NoFartherThanAThrow();
        Edges.is(x.thing(0, 10, 1, 10), 0);
        Edges.people(x, strengths);
        return x;
    }

    /** The call takes a STEP that may be and is farther than 10, in a valley of LONG 60 with THE RIVER 20 to 25. */
    private static void takesSteps(NoFartherThanAThrow x, int refusal, IntUnaryOperator call) {
        int[] not = {10, 9, 0, -1, 21, 24, 61, LEAST, MOST};
        Edges.is(x.river(20, 25), 1);
        LongSupplier[] calls = new LongSupplier[not.length];
        for (int i = 0; i < not.length; i++) {
            int step = not[i];
            calls[i] = () -> call.applyAsInt(step);
        }
        Edges.refused(x, refusal, calls);
        int[] may = {11, 20, 25, 60};
        int before = x.status(16);
        for (int step : may) {
            call.applyAsInt(step);
        }
        Edges.is(x.status(16), before);
        Edges.is(x.ask(0, 99), 60);
        call.applyAsInt(99);
        Edges.is(x.status(16), before);
        Edges.refused(x, refusal, () -> call.applyAsInt(100));
    }

    /** GLASS 0 is BROKEN, 1 not; THING 2 was had last by number 0, 3 by nobody; all at 10. FARs are 8, 4, 1. */
    private static NoFartherThanAThrow twins() {
        NoFartherThanAThrow x = new NoFartherThanAThrow();
        Edges.is(x.thing(4, 10, 1, 6), 0);
        Edges.is(x.thing(4, 10, 1, 10), 1);
        Edges.is(x.thing(0, 10, 1, 9), 2);
        Edges.is(x.thing(0, 10, 1, 10), 3);
        Edges.people(x, 10, 4, 3);
        Edges.breakGlass(x, 2, 0);
        Edges.is(x.carry(0, 2, 1), 10);
        Edges.is(x.thingOf(2, 4), 0);
        return x;
    }

    // ---- Terms, ROW of a set; promise 24: end ----

    /** Terms, "each takes it once": of one, of none, of all eight. */
    static void eachTakesItOnce() {
        NoFartherThanAThrow x = row(1, 2, 3, 4, 5, 6, 7, 8);
        Edges.is(x.end(0, 0), 10);
        Edges.is(x.end(0, 1), 11);
        Edges.is(x.end(0, 128), 18);
        Edges.is(x.end(0, 255), 46);
        Edges.is(x.end(0, 254), 45);
    }

    /** Promise 24, "no end being wanted but LONG": as far as LONG, no farther; from LONG no step. */
    static void endIsNoFartherThanLong() {
        NoFartherThanAThrow x = row(40, 9, 1);
        Edges.is(x.end(0, 1), 50);
        Edges.is(x.end(0, 3), 59);
        Edges.is(x.end(0, 7), 60);
        Edges.people(x, 1);
        Edges.is(x.end(0, 15), 60);
        Edges.is(x.ask(0, 61), 60);
        Edges.is(x.end(0, 15), 61);
        Edges.is(x.ask(0, 10), 61);
        Edges.is(x.end(0, 15), 10);
    }

    /** Terms, "if that is in THE RIVER, to FROM at most": FROM and TO are not in it. */
    static void toFromAtMost() {
        NoFartherThanAThrow x = row(4, 5, 6, 9, 10, 11);
        Edges.is(x.river(15, 20), 1);
        int[] ends = {14, 15, 15, 15, 20, 21};
        for (int man = 0; man < 6; man++) {
            Edges.is(x.end(0, 1 << man), ends[man]);
        }
    }

    /** Terms, "(not less than p)": from FROM itself who can't cross it brings it no step, and not back. */
    static void notLessThanWhereItIs() {
        NoFartherThanAThrow x = row(4, 5, 6);
        Edges.is(x.river(10, 15), 1);
        Edges.is(x.end(0, 1), 10);
        Edges.is(x.end(0, 2), 15);
        Edges.is(x.end(0, 4), 16);
        Edges.is(x.river(3, 10), 1);
        Edges.is(x.end(0, 1), 14);
        Edges.is(x.end(0, 0), 10);
    }

    /** Terms, "in any order": the best one counts, whatever the numbers are. */
    static void inAnyOrder() {
        // 9 over THE RIVER from 16 on: 6 goes first
        NoFartherThanAThrow x = row(9, 6);
        Edges.is(x.river(16, 25), 1);
        Edges.is(x.end(0, 3), 25);
        NoFartherThanAThrow y = row(6, 9);
        Edges.is(y.river(16, 25), 1);
        Edges.is(y.end(0, 3), 25);
        Edges.is(y.river(16, 26), 1);
        Edges.is(y.end(0, 3), 16);
    }

    /** Terms, "(LAST, BROKEN don't matter in this ..)", of END; who is TIRED has less FAR. */
    static void lastAndBrokenDontMatterToEnd() {
        NoFartherThanAThrow x = twins();
        int[] glass = {10, 15, 14, 19, 11, 16, 15, 20};
        int[] plain = {10, 18, 14, 22, 11, 19, 15, 23};
        for (int set = 0; set < 8; set++) {
            Edges.is(x.end(0, set), glass[set]);
            Edges.is(x.end(1, set), glass[set]);
            Edges.is(x.end(2, set), plain[set]);
            Edges.is(x.end(3, set), plain[set]);
        }
    }

    /** Promise 24, "-1 also bits beyond": of none, of some, of eight; and below 0. */
    static void endRefusesBitsBeyond() {
        NoFartherThanAThrow x = row();
        Edges.is(x.end(0, 0), 10);
        Edges.refused(x, -1, () -> x.end(0, 1));
        Edges.people(x, 1, 1);
        Edges.is(x.end(0, 3), 12);
        Edges.refused(x, -1, () -> x.end(0, 4), () -> x.end(0, 5), () -> x.end(0, -1), () -> x.end(0, LEAST),
            () -> x.end(0, MOST));
        Edges.people(x, 1, 1, 1, 1, 1, 1);
        Edges.is(x.end(0, 255), 18);
        Edges.refused(x, -1, () -> x.end(0, 256), () -> x.end(0, 257), () -> x.end(0, -1));
    }

    /** Promise 24, "-1": no such THING. */
    static void endRefusesNoThing() {
        NoFartherThanAThrow x = row(1);
        Edges.refused(x, -1, () -> x.end(1, 0), () -> x.end(-1, 0), () -> x.end(LEAST, 0), () -> x.end(MOST, 0));
    }

    // ---- Promise 25: does ----

    /** Terms, "A set DOES, if some order ends there": just as far, one step too far; the empty set never. */
    static void doesJustAsFar() {
        NoFartherThanAThrow x = row(5, 3);
        Edges.is(x.does(0, 1, 15), 1);
        Edges.is(x.does(0, 1, 16), 0);
        Edges.is(x.does(0, 3, 18), 1);
        Edges.is(x.does(0, 3, 19), 0);
        Edges.is(x.does(0, 0, 11), 0);
    }

    /** Terms, "no farther than the end that is wanted": who could go farther ends there; FROM and before it too. */
    static void doesNoFartherThanTheEndWanted() {
        NoFartherThanAThrow x = row(8, 3);
        Edges.is(x.does(0, 1, 11), 1);
        Edges.is(x.does(0, 3, 11), 1);
        Edges.is(x.river(15, 20), 1);
        Edges.is(x.does(0, 1, 15), 1);
        Edges.is(x.does(0, 1, 14), 1);
        Edges.is(x.does(0, 3, 20), 1);
        Edges.is(x.river(15, 22), 1);
        Edges.is(x.does(0, 3, 22), 0);
        Edges.is(x.river(15, 18), 1);
        Edges.is(x.does(0, 3, 20), 1);
        Edges.is(x.does(0, 1, 18), 1);
    }

    /** Promise 25, "-6 STEP that may not be, that isn't farther". */
    static void doesRefusesSteps() {
        NoFartherThanAThrow x = row(5, 3);
        takesSteps(x, -6, step -> x.does(0, 3, step));
    }

    /** Promise 25, "-1": no such THING, bits beyond. */
    static void doesRefusesNobody() {
        NoFartherThanAThrow x = row(5, 3);
        Edges.refused(x, -1, () -> x.does(1, 3, 11), () -> x.does(-1, 3, 11), () -> x.does(0, 4, 11),
            () -> x.does(0, -1, 11), () -> x.does(0, 256, 11), () -> x.does(LEAST, 3, 11), () -> x.does(MOST, 3, 11),
            () -> x.does(0, LEAST, 11), () -> x.does(0, MOST, 11));
    }

    /** REFUSALS, "the first that fits, in this order", of promise 25. */
    static void doesRefusesInOrder() {
        NoFartherThanAThrow x = row(5, 3);
        Edges.refused(x, -1, () -> x.does(1, 3, 61), () -> x.does(0, 4, 10));
    }

    /** Terms, "(LAST, BROKEN don't matter in this ..)", of DOES. */
    static void lastAndBrokenDontMatterToDoes() {
        NoFartherThanAThrow x = twins();
        Edges.is(x.does(0, 1, 15), 1);
        Edges.is(x.does(0, 1, 16), 0);
        Edges.is(x.does(2, 1, 18), 1);
        Edges.is(x.does(2, 1, 19), 0);
    }

    // ---- Promise 26: fewest ----

    /** Terms, FEWEST: "the one of the fewest PEOPLE": one alone, all eight. */
    static void fewestIsOneOrAll() {
        NoFartherThanAThrow x = row(1, 1, 1, 1, 1, 1, 1, 2);
        Edges.is(x.fewest(0, 12), 128);
        Edges.is(x.fewest(0, 19), 255);
        Edges.refused(x, -5, () -> x.fewest(0, 20));
    }

    /** Terms, FEWEST: "of the fewest PEOPLE", though more of them were less as bits. */
    static void fewestBeforeLeast() {
        NoFartherThanAThrow x = row(2, 2, 4);
        Edges.is(x.fewest(0, 14), 4);
        Edges.is(x.fewest(0, 13), 4);
        Edges.is(x.fewest(0, 15), 5);
        NoFartherThanAThrow y = row(2, 2, 2, 4, 4);
        Edges.is(y.fewest(0, 17), 24);
    }

    /** Terms, FEWEST: "of several the least as bits". */
    static void fewestTheLeastAsBits() {
        NoFartherThanAThrow x = row(3, 3, 3, 3);
        Edges.is(x.fewest(0, 13), 1);
        Edges.is(x.fewest(0, 14), 3);
        NoFartherThanAThrow y = row(1, 5, 2, 4, 3);
        // 6 by two: 5 and 1, 5 and 2, 5 and 4, 5 and 3, 4 and 2, 4 and 3
        Edges.is(y.fewest(0, 16), 3);
        Edges.is(y.fewest(0, 17), 6);
    }

    /** Promise 26, "-5 none DOES": for want of FAR, of PEOPLE, over THE RIVER. */
    static void fewestRefusesWhereNoneDoes() {
        NoFartherThanAThrow x = row();
        Edges.refused(x, -5, () -> x.fewest(0, 11));
        Edges.people(x, 5, 5);
        Edges.is(x.fewest(0, 20), 3);
        Edges.refused(x, -5, () -> x.fewest(0, 21));
        Edges.is(x.river(15, 20), 1);
        Edges.is(x.fewest(0, 20), 3);
        Edges.is(x.river(15, 21), 1);
        Edges.refused(x, -5, () -> x.fewest(0, 21));
        Edges.is(x.fewest(0, 15), 1);
    }

    /** Promise 26, "-6 likewise". */
    static void fewestRefusesSteps() {
        NoFartherThanAThrow x = row(40, 40, 40);
        takesSteps(x, -6, step -> x.fewest(0, step));
    }

    /** Promise 26, "-1". */
    static void fewestRefusesNoThing() {
        NoFartherThanAThrow x = row(5);
        Edges.refused(x, -1, () -> x.fewest(1, 11), () -> x.fewest(-1, 11), () -> x.fewest(LEAST, 11),
            () -> x.fewest(MOST, 11));
    }

    /** REFUSALS of promise 26: -1 ahead of all; Details: where the STEP may not be, it is -6, though none DOES. */
    static void fewestRefusesInOrder() {
        NoFartherThanAThrow x = row();
        Edges.refused(x, -1, () -> x.fewest(1, 61), () -> x.fewest(1, 11));
        Edges.refused(x, -6, () -> x.fewest(0, 61), () -> x.fewest(0, 10));
    }

    /** Terms, "(LAST, BROKEN don't matter in .. what follows of it.)", of FEWEST. */
    static void lastAndBrokenDontMatterToFewest() {
        NoFartherThanAThrow x = twins();
        Edges.is(x.fewest(0, 15), 1);
        Edges.is(x.fewest(2, 18), 1);
        Edges.is(x.fewest(2, 22), 3);
    }

    // ---- Promise 27: order ----

    /** Terms, ORDER: "the first row, by numbers": where all orders do, and where the last by number has to begin. */
    static void theFirstRowByNumbers() {
        NoFartherThanAThrow x = row(9, 3, 6);
        for (int i = 0; i < 3; i++) {
            Edges.is(x.order(0, 7, 28, i), i);
            Edges.is(x.order(0, 7, 11, i), i);
        }
        Edges.is(x.river(19, 28), 1);
        // 3 and 6 to 19, then 9 over it
        int[] due = {1, 2, 0};
        for (int i = 0; i < 3; i++) {
            Edges.is(x.order(0, 7, 28, i), due[i]);
            Edges.is(x.order(0, 7, 19, i), i);
        }
        Edges.is(x.river(16, 25), 1);
        int[] six = {1, 2, 0};
        for (int i = 0; i < 3; i++) {
            Edges.is(x.order(0, 7, 25, i), six[i]);
        }
        Edges.is(x.order(0, 5, 25, 0), 2);
        Edges.is(x.order(0, 5, 25, 1), 0);
    }

    /** Promise 27, "i-th": 0 and the last of eight; -5 "no such place" below 0 and behind the last. */
    static void placesOfARow() {
        NoFartherThanAThrow x = row(1, 1, 1, 1, 1, 1, 1, 1);
        for (int i = 0; i < 8; i++) {
            Edges.is(x.order(0, 255, 18, i), i);
        }
        Edges.is(x.order(0, 128, 11, 0), 7);
        Edges.refused(x, -5, () -> x.order(0, 255, 18, 8), () -> x.order(0, 255, 18, -1), () -> x.order(0, 128, 11, 1),
            () -> x.order(0, 255, 18, LEAST), () -> x.order(0, 255, 18, MOST));
    }

    /** Promise 27, "-5 it doesn't DO": the empty set never does. */
    static void orderRefusesASetThatDoesNot() {
        NoFartherThanAThrow x = row(5, 3);
        Edges.is(x.order(0, 3, 18, 1), 1);
        Edges.refused(x, -5, () -> x.order(0, 3, 19, 0), () -> x.order(0, 1, 16, 0), () -> x.order(0, 0, 11, 0));
    }

    /** Promise 27, "-6 likewise". */
    static void orderRefusesSteps() {
        NoFartherThanAThrow x = row(5, 3);
        takesSteps(x, -6, step -> x.order(0, 3, step, 0));
    }

    /** Details: "-5 for a number that goes with another one .. is looked at only if that other one may be". */
    static void orderLooksAtTheStepFirst() {
        NoFartherThanAThrow x = row(5, 3);
        Edges.refused(x, -6, () -> x.order(0, 3, 61, 2), () -> x.order(0, 3, 10, -1), () -> x.order(0, 0, 10, 0));
    }

    /** Promise 27, "-1": no such THING, bits beyond, ahead of all else. */
    static void orderRefusesNobody() {
        NoFartherThanAThrow x = row(5, 3);
        Edges.refused(x, -1, () -> x.order(1, 3, 11, 0), () -> x.order(-1, 3, 11, 0), () -> x.order(0, 4, 11, 0),
            () -> x.order(0, -1, 11, 0), () -> x.order(1, 3, 61, 0), () -> x.order(1, 3, 11, 9),
            () -> x.order(0, 4, 10, 0), () -> x.order(0, 4, 11, 9));
    }

    /** Terms, "each takes it once": who has no FAR has a place in ORDER too. */
    static void whoHasNoFarHasAPlace() {
        NoFartherThanAThrow x = new NoFartherThanAThrow();
        Edges.is(x.thing(0, 90, 1, 10), 0);
        Edges.people(x, 8, 9);
        Edges.is(x.far(0, 0), 0);
        Edges.is(x.order(0, 3, 11, 0), 0);
        Edges.is(x.order(0, 3, 11, 1), 1);
    }

    /** Terms, "(LAST, BROKEN don't matter in .. what follows of it.)", of ORDER. */
    static void lastAndBrokenDontMatterToOrder() {
        NoFartherThanAThrow x = twins();
        Edges.is(x.order(0, 7, 20, 0), 0);
        Edges.is(x.order(2, 7, 23, 0), 0);
        Edges.is(x.order(2, 1, 18, 0), 0);
    }

    // ---- Promise 28: handovers ----

    /** Terms, HANDOVERS "the fewest times it is CARRIED": just as far by one, by two, by three. */
    static void handoversJustAsFar() {
        NoFartherThanAThrow x = row(3, 5, 1);
        int[][] due = {{11, 1}, {15, 1}, {16, 2}, {18, 2}, {19, 3}, {23, 3}, {24, 4}, {26, 4}, {27, 5}};
        for (int[] d : due) {
            Edges.is(x.handovers(0, d[0]), d[1]);
        }
    }

    /** Terms, HANDOVERS "anyone may have it again, but not twice running": one alone, two. */
    static void notTwiceRunning() {
        NoFartherThanAThrow x = row(5);
        Edges.is(x.handovers(0, 15), 1);
        Edges.is(x.handovers(0, 16), NONE);
        Edges.people(x, 1);
        Edges.is(x.handovers(0, 16), 2);
        Edges.is(x.handovers(0, 21), 3);
        Edges.is(x.handovers(0, 22), 4);
    }

    /** Terms, HANDOVERS "(nor who had it last)". */
    static void norWhoHadItLast() {
        NoFartherThanAThrow x = row(9);
        Edges.is(x.carry(0, 0, 1), 11);
        Edges.is(x.handovers(0, 12), NONE);
        Edges.people(x, 2);
        Edges.is(x.handovers(0, 13), 1);
        Edges.is(x.handovers(0, 14), 2);
        Edges.is(x.handovers(0, 20), 2);
        Edges.is(x.handovers(0, 21), 3);
        Edges.is(x.night(), 1);
        Edges.is(x.handovers(0, 19), 1);
    }

    /** Terms, "(.. BROKEN don't matter in .. what follows of it.)", of HANDOVERS, for which LAST does matter. */
    static void brokenDoesNotMatterToHandovers() {
        NoFartherThanAThrow x = twins();
        Edges.is(x.handovers(0, 15), 1);
        Edges.is(x.handovers(1, 15), 1);
        Edges.is(x.handovers(3, 18), 1);
        Edges.is(x.handovers(2, 14), 1);
        Edges.is(x.handovers(2, 15), 2);
    }

    /** Terms, HANDOVERS "TIRED as now": nobody tires by it; who is TIRED already has less FAR. */
    static void handoversTiredAsNow() {
        NoFartherThanAThrow x = row(2, 2);
        Edges.is(x.handovers(0, 60), 25);
        NoFartherThanAThrow y = row(9, 1);
        Edges.is(y.carry(0, 0, 1), 11);
        Edges.is(y.carry(1, 0, 1), 12);
        Edges.is(y.handovers(0, 19), 1);
        Edges.is(y.handovers(0, 20), NONE);
    }

    /** Terms, HANDOVERS "NONE: never": nobody there, nobody with FAR; it is no refusal. */
    static void handoversNever() {
        NoFartherThanAThrow x = row();
        Edges.is(x.handovers(0, 11), NONE);
        Edges.is(x.thing(0, 99, 1, 10), 1);
        Edges.people(x, 9, 9);
        Edges.is(x.handovers(1, 11), NONE);
        Edges.people(x, 10);
        Edges.is(x.handovers(1, 11), 1);
        Edges.is(x.handovers(1, 12), NONE);
        Edges.notRefused(x);
    }

    /** Terms, HANDOVERS "THE RIVER aside": it is handed over in it and CARRIED over it by any FAR. */
    static void handoversTheRiverAside() {
        NoFartherThanAThrow x = row(2, 3);
        Edges.is(x.river(10, 40), 1);
        Edges.is(x.handovers(0, 40), 12);
        Edges.is(x.handovers(0, 60), 20);
    }

    /** Terms, HANDOVERS: as many as there are steps. */
    static void handoversStepByStep() {
        NoFartherThanAThrow x = new NoFartherThanAThrow();
        Edges.is(x.thing(0, 10, 1, 0), 0);
        Edges.is(x.ask(0, 99), 60);
        Edges.people(x, 1, 1);
        Edges.is(x.handovers(0, 99), 99);
        Edges.is(x.handovers(0, 1), 1);
    }

    /** Promise 28, "-16 (counted as .. -6)": STEPS that may not be, that are not onward. */
    static void handoversRefusesSteps() {
        NoFartherThanAThrow x = row(5, 3);
        takesSteps(x, -16, step -> x.handovers(0, step));
    }

    /** Promise 28, "-11 (counted as -1 ..)", ahead of -16. */
    static void handoversRefusesNoThing() {
        NoFartherThanAThrow x = row(5, 3);
        Edges.refused(x, -11, () -> x.handovers(1, 11), () -> x.handovers(-1, 11), () -> x.handovers(1, 61),
            () -> x.handovers(LEAST, 11), () -> x.handovers(MOST, 11));
    }

    // ---- Promise 31: mill ----

    /** Terms, MILL "the least number of PEOPLE": just as far by one, by two, by more than eight. */
    static void millJustAsFar() {
        NoFartherThanAThrow x = row();
        Edges.is(x.mill(0, 11, 5), 1);
        Edges.is(x.mill(0, 15, 5), 1);
        Edges.is(x.mill(0, 16, 5), 2);
        Edges.is(x.mill(0, 60, 5), 10);
        Edges.is(x.mill(0, 59, 1), 49);
        Edges.is(x.mill(0, 60, 1), 50);
        NoFartherThanAThrow y = new NoFartherThanAThrow();
        Edges.is(y.thing(0, 10, 1, 0), 0);
        Edges.is(y.ask(0, 99), 60);
        Edges.is(y.mill(0, 99, 1), 99);
    }

    /** Promise 31: STRENGTH 1 and 99 may be; 0 and 100 may not, -16. */
    static void millByStrengths1To99() {
        NoFartherThanAThrow x = row();
        Edges.is(x.mill(0, 11, 1), 1);
        Edges.is(x.mill(0, 50, 99), 1);
        Edges.is(x.mill(0, 51, 99), 2);
        Edges.refused(x, -16, () -> x.mill(0, 11, 0), () -> x.mill(0, 11, 100), () -> x.mill(0, 11, -1),
            () -> x.mill(0, 11, LEAST), () -> x.mill(0, 11, MOST));
    }

    /** Terms, MILL "(THE RIVER counts)": they stand at FROM; just over it, just not. */
    static void millTheRiverCounts() {
        NoFartherThanAThrow x = row();
        Edges.is(x.river(13, 18), 1);
        Edges.is(x.mill(0, 13, 5), 1);
        Edges.is(x.mill(0, 18, 5), 2);
        Edges.is(x.mill(0, 19, 5), 3);
        Edges.is(x.mill(0, 18, 4), NONE);
        Edges.is(x.mill(0, 13, 4), 1);
        Edges.is(x.mill(0, 18, 8), 1);
        Edges.is(x.river(10, 15), 1);
        Edges.is(x.mill(0, 15, 4), NONE);
        Edges.is(x.mill(0, 15, 5), 1);
    }

    /** Terms, MILL "NONE: however many": who has no FAR; it is no refusal. */
    static void millHoweverMany() {
        NoFartherThanAThrow x = new NoFartherThanAThrow();
        Edges.is(x.thing(0, 99, 1, 10), 0);
        Edges.is(x.mill(0, 11, 9), NONE);
        Edges.is(x.mill(0, 11, 10), 1);
        Edges.notRefused(x);
    }

    /** Terms, MILL "PEOPLE of STRENGTH s (not TIRED)": those there are don't matter, nor LAST, nor BROKEN. */
    static void millOfOthers() {
        NoFartherThanAThrow x = twins();
        Edges.is(x.mill(2, 20, 10), 1);
        Edges.is(x.mill(2, 20, 5), 2);
        Edges.is(x.mill(0, 20, 10), 2);
        Edges.is(x.mill(0, 15, 4), 2);
    }

    /** Promise 31, "-16 (counted as .. -6)": STEPS that may not be, that are not onward. */
    static void millRefusesSteps() {
        NoFartherThanAThrow x = row();
        takesSteps(x, -16, step -> x.mill(0, step, 9));
    }

    /** Promise 31, "-11 (counted as -1 ..)", ahead of -16. */
    static void millRefusesNoThing() {
        NoFartherThanAThrow x = row();
        Edges.refused(x, -11, () -> x.mill(1, 11, 5), () -> x.mill(-1, 11, 5), () -> x.mill(1, 10, 5),
            () -> x.mill(1, 11, 0), () -> x.mill(LEAST, 11, 5), () -> x.mill(MOST, 11, 5));
    }

    // ---- Promise 32: weakest ----

    /** Terms, WEAKEST "without whom its END is greatest": of one the one. */
    static void weakestOfOne() {
        NoFartherThanAThrow x = row(5, 3, 9);
        Edges.is(x.weakest(0, 1), 0);
        Edges.is(x.weakest(0, 4), 2);
        Edges.is(x.weakest(0, 7), 1);
        Edges.is(x.weakest(0, 5), 0);
    }

    /** Terms, WEAKEST "of several the first": of equals, and where LONG is the END all the same. */
    static void weakestTheFirst() {
        NoFartherThanAThrow x = row(7, 3, 9, 3, 3);
        Edges.is(x.weakest(0, 31), 1);
        Edges.is(x.weakest(0, 24), 3);
        Edges.is(x.ask(0, 16), 60);
        Edges.is(x.weakest(0, 31), 0);
        Edges.is(x.weakest(0, 30), 1);
        NoFartherThanAThrow y = new NoFartherThanAThrow();
        Edges.is(y.thing(0, 99, 1, 0), 0);
        Edges.people(y, 1, 1, 1, 1, 1, 1, 1, 1);
        Edges.is(y.weakest(0, 255), 0);
        Edges.is(y.weakest(0, 192), 6);
    }

    /** Terms, WEAKEST "of several the first": where THE RIVER makes the END the same without 6 and without 4. */
    static void weakestOverTheRiver() {
        NoFartherThanAThrow x = row(9, 6, 4);
        Edges.is(x.river(14, 23), 1);
        Edges.is(x.end(0, 5), 23);
        Edges.is(x.end(0, 3), 23);
        Edges.is(x.end(0, 6), 14);
        Edges.is(x.weakest(0, 7), 1);
    }

    /** Promise 32, "-5 it is empty". */
    static void weakestRefusesAnEmptySet() {
        NoFartherThanAThrow x = row(5, 3);
        Edges.refused(x, -5, () -> x.weakest(0, 0));
    }

    /** Promise 32, "-1": no such THING, bits beyond; ahead of -5. */
    static void weakestRefusesNobody() {
        NoFartherThanAThrow x = row(5, 3);
        Edges.refused(x, -1, () -> x.weakest(1, 3), () -> x.weakest(-1, 3), () -> x.weakest(1, 0),
            () -> x.weakest(0, 4), () -> x.weakest(0, -1), () -> x.weakest(0, LEAST), () -> x.weakest(0, MOST),
            () -> x.weakest(LEAST, 3), () -> x.weakest(MOST, 3));
    }

    /** Terms, "(LAST, BROKEN don't matter in .. what follows of it.)", of WEAKEST. */
    static void lastAndBrokenDontMatterToWeakest() {
        NoFartherThanAThrow x = twins();
        Edges.is(x.weakest(0, 7), 2);
        Edges.is(x.weakest(2, 3), 1);
    }

    // ---- Promise 33: helps ----

    /** Terms, HELPS "how much more STRENGTH (0 to 99)": 1 at least, as the set doesn't DO yet; 99 at most. */
    static void helps1To99() {
        NoFartherThanAThrow x = row(5, 3);
        Edges.is(x.helps(0, 3, 19, 0), 1);
        Edges.is(x.helps(0, 3, 19, 1), 1);
        Edges.is(x.helps(0, 1, 20, 0), 5);
        NoFartherThanAThrow y = new NoFartherThanAThrow();
        // 99 by 2.5 is 39, 100 by 2.5 is 40
        Edges.is(y.thing(0, 25, 1, 10), 0);
        Edges.people(y, 1);
        Edges.is(y.helps(0, 1, 49, 0), 97);
        Edges.is(y.helps(0, 1, 50, 0), 99);
    }

    /** Terms, HELPS "NONE: not by 99": for want of STRENGTH, and beyond the 40 steps of FAR; it is no refusal. */
    static void helpsNotBy99() {
        NoFartherThanAThrow x = new NoFartherThanAThrow();
        // 100 by 2.6 is 38; 39 steps take 102
        Edges.is(x.thing(0, 26, 1, 10), 0);
        Edges.people(x, 1);
        Edges.is(x.helps(0, 1, 48, 0), 98);
        Edges.is(x.helps(0, 1, 49, 0), NONE);
        Edges.is(x.thing(0, 1, 1, 10), 1);
        Edges.is(x.helps(1, 1, 50, 0), 3);
        Edges.is(x.helps(1, 1, 51, 0), NONE);
        Edges.notRefused(x);
    }

    /** Terms, HELPS: over THE RIVER, just as much as takes it there. */
    static void helpsOverTheRiver() {
        NoFartherThanAThrow x = row(4, 5);
        Edges.is(x.river(15, 25), 1);
        Edges.is(x.helps(0, 3, 25, 0), 6);
        Edges.is(x.helps(0, 3, 25, 1), 6);
        Edges.is(x.helps(0, 1, 15, 0), 1);
    }

    /** Terms, HELPS of one who is more TIRED than STRENGTH: it takes as much more. */
    static void helpsTheTired() {
        NoFartherThanAThrow x = new NoFartherThanAThrow();
        Edges.is(x.thing(0, 10, 1, 10), 0);
        Edges.people(x, 1);
        Edges.is(x.carry(0, 0, 1), 11);
        Edges.is(x.manOf(0, 1), 2);
        // STRENGTH 1, TIRED 2: two more for one step
        Edges.is(x.helps(0, 1, 12, 0), 2);
        Edges.is(x.helps(0, 1, 13, 0), 3);
    }

    /** Promise 33, "-11 also one who isn't in the set". */
    static void helpsRefusesOneNotInTheSet() {
        NoFartherThanAThrow x = row(5, 3);
        Edges.refused(x, -11, () -> x.helps(0, 1, 30, 1), () -> x.helps(0, 2, 30, 0), () -> x.helps(0, 0, 30, 0));
    }

    /** Promise 33, "-11": no such THING, bits beyond, no such one; also one of the bits beyond. */
    static void helpsRefusesNobody() {
        NoFartherThanAThrow x = row(5, 3);
        Edges.refused(x, -11, () -> x.helps(1, 3, 30, 0), () -> x.helps(-1, 3, 30, 0), () -> x.helps(0, 4, 30, 2),
            () -> x.helps(0, 7, 30, 0), () -> x.helps(0, -1, 30, 0), () -> x.helps(0, 3, 30, 2),
            () -> x.helps(0, 3, 30, -1), () -> x.helps(0, 3, 30, 32), () -> x.helps(0, 3, 30, 33),
            () -> x.helps(0, 3, 30, LEAST), () -> x.helps(0, 3, 30, MOST), () -> x.helps(0, LEAST, 30, 0),
            () -> x.helps(0, MOST, 30, 0), () -> x.helps(LEAST, 3, 30, 0), () -> x.helps(MOST, 3, 30, 0));
    }

    /** Promise 33, "-16 also it DOES": just as far; one step farther it doesn't. */
    static void helpsRefusesASetThatDoes() {
        NoFartherThanAThrow x = row(5, 3);
        Edges.refused(x, -16, () -> x.helps(0, 3, 18, 0), () -> x.helps(0, 3, 11, 1));
        Edges.is(x.helps(0, 3, 19, 0), 1);
    }

    /** Promise 33, "-16": STEPS that may not be, that are not onward. */
    static void helpsRefusesSteps() {
        NoFartherThanAThrow x = new NoFartherThanAThrow();
        Edges.is(x.thing(0, 99, 1, 10), 0);
        Edges.people(x, 1);
        takesSteps(x, -16, step -> x.helps(0, 1, step, 0));
    }

    /** REFUSALS, "the first that fits, in this order", of promise 33: -1 ahead of -6. */
    static void helpsRefusesInOrder() {
        NoFartherThanAThrow x = row(5, 3);
        Edges.refused(x, -11, () -> x.helps(1, 3, 61, 0), () -> x.helps(0, 7, 10, 0), () -> x.helps(0, 3, 61, 2),
            () -> x.helps(0, 1, 61, 1), () -> x.helps(0, 1, 15, 1));
    }

    /** Terms, "(LAST, BROKEN don't matter in .. what follows of it.)", of HELPS. */
    static void lastAndBrokenDontMatterToHelps() {
        NoFartherThanAThrow x = twins();
        Edges.is(x.helps(0, 2, 15, 1), 1);
        Edges.is(x.helps(2, 1, 19, 0), 1);
    }
}
