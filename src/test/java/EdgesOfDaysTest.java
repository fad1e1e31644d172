/** Promises 38 to 45, and the Terms of CUT UP, A NIGHT, the SEED, ACTS, THE IMAGE, REFUSALS: the boundary cases. */
public final class EdgesOfDaysTest {
    private static final int LEAST = Edges.LEAST;
    private static final int MOST = Edges.MOST;
    private static final int NONE = -1;

    public static void main(String[] args) throws IllegalAccessException {
        Edges.run(EdgesOfDaysTest.class);
    }

    /** A PARTED THING of this WEIGHT and EXTRA at 7, number 0. */
    private static NoFartherThanAThrow parted(int weight, int extra) {
        NoFartherThanAThrow x = new NoFartherThanAThrow();
        Edges.is(x.thing(5, weight, extra, 7), 0);
        return x;
    }

    private static void thingIs(NoFartherThanAThrow x, int thing, int... told) {
        for (int what = 0; what < told.length; what++) {
            Edges.is(x.thingOf(thing, what), told[what]);
        }
    }

    // ---- Terms, CUT UP; promise 38: part ----

    /** Terms, CUT UP: "becomes EXTRA of them": of EXTRA 1 it is one, a THING now. */
    static void partedIntoOne() {
        NoFartherThanAThrow x = parted(30, 1);
        Edges.is(x.part(0), 1);
        thingIs(x, 0, 0, 30, 1, 7, NONE, 0);
        Edges.refused(x, -2, () -> x.part(0));
    }

    /** Terms, CUT UP: "becomes EXTRA of them": of EXTRA 8 eight, as many as there may be. */
    static void partedIntoEight() {
        NoFartherThanAThrow x = parted(99, 8);
        Edges.is(x.part(0), 8);
        for (int thing = 0; thing < 8; thing++) {
            thingIs(x, thing, 0, 13, 1, 7, NONE, 0);
        }
    }

    /** Promise 38, "-7": of EXTRA 9 there would be nine. */
    static void nineAreTooMany() {
        NoFartherThanAThrow x = parted(99, 9);
        Edges.refused(x, -7, () -> x.part(0));
        thingIs(x, 0, 5, 99, 9, 7, NONE, 0);
    }

    /** Promise 38, "-7": where there are others: just eight together, and nine. */
    static void eightTogether() {
        NoFartherThanAThrow x = parted(30, 3);
        for (int thing = 1; thing < 6; thing++) {
            Edges.is(x.thing(1, 50, 2, 0), thing);
        }
        Edges.is(x.image(), 6);
        Edges.is(x.part(0), 8);
        Edges.is(x.restore(), 6);
        Edges.is(x.thing(1, 50, 2, 0), 6);
        Edges.refused(x, -7, () -> x.part(0));
    }

    /** Promise 38: where all are there already, one of EXTRA 1 needs no room. */
    static void partedIntoOneWhereAllAreThere() {
        NoFartherThanAThrow x = new NoFartherThanAThrow();
        for (int thing = 0; thing < 8; thing++) {
            Edges.is(x.thing(5, 9, thing == 6 ? 2 : 1, 0), thing);
        }
        Edges.is(x.part(7), 8);
        thingIs(x, 7, 0, 9, 1, 0, NONE, 0);
        Edges.refused(x, -7, () -> x.part(6));
    }

    /** Terms, CUT UP: "WEIGHT by EXTRA, rounded up": where it is even, one more, one less than even; 1 at least. */
    static void weightRoundedUp() {
        int[][] parts = {{12, 4, 3}, {13, 4, 4}, {15, 4, 4}, {16, 4, 4}, {17, 4, 5}, {1, 8, 1}, {8, 8, 1}, {9, 8, 2}};
        for (int[] p : parts) {
            NoFartherThanAThrow x = parted(p[0], p[1]);
            Edges.is(x.part(0), p[1]);
            Edges.is(x.thingOf(0, 1), p[2]);
            Edges.is(x.thingOf(p[1] - 1, 1), p[2]);
        }
    }

    /** Terms, CUT UP: "(EXTRA 1, STEP and LAST as they were)": of the first and of the others. */
    static void stepAndLastAsTheyWere() {
        NoFartherThanAThrow x = parted(30, 3);
        Edges.people(x, 99);
        Edges.is(x.carry(0, 0, 3), 10);
        Edges.is(x.part(0), 3);
        for (int thing = 0; thing < 3; thing++) {
            thingIs(x, thing, 0, 10, 1, 10, 0, 0);
            Edges.is(x.wrong(0, thing, 1), 1);
        }
    }

    /** Terms, CUT UP: "its first in its place, the others behind": those between stay where they are. */
    static void theOthersBehind() {
        NoFartherThanAThrow x = new NoFartherThanAThrow();
        Edges.is(x.thing(1, 50, 2, 3), 0);
        Edges.is(x.thing(5, 30, 3, 7), 1);
        Edges.is(x.thing(2, 60, 4, 5), 2);
        Edges.is(x.want(2, 9, 1), 0);
        Edges.is(x.part(1), 5);
        thingIs(x, 0, 1, 50, 2, 3, NONE, 0);
        thingIs(x, 1, 0, 10, 1, 7, NONE, 0);
        thingIs(x, 2, 2, 60, 4, 5, NONE, 0);
        thingIs(x, 3, 0, 10, 1, 7, NONE, 0);
        thingIs(x, 4, 0, 10, 1, 7, NONE, 0);
        Edges.is(x.wantOf(0, 0), 2);
    }

    /** Terms, CUT UP: "(SHELVES hold those of their numbers)". */
    static void shelvesHoldThoseOfTheirNumbers() {
        NoFartherThanAThrow x = parted(30, 3);
        Edges.is(x.thing(1, 50, 2, 3), 1);
        Edges.is(x.show(0, 0), 1);
        Edges.is(x.show(1, 1), 1);
        Edges.is(x.says(0, 5), 3);
        Edges.is(x.part(0), 4);
        Edges.is(x.holds(0), 0);
        Edges.is(x.says(0, 0), 10);
        Edges.refused(x, -2, () -> x.says(0, 5));
        Edges.is(x.holds(1), 1);
        Edges.is(x.says(1, 0), 50);
        Edges.is(x.holds(2), NONE);
    }

    /** Promise 38, "-1". */
    static void partRefusesNoThing() {
        NoFartherThanAThrow x = parted(30, 3);
        Edges.refused(x, -1, () -> x.part(1), () -> x.part(-1), () -> x.part(LEAST), () -> x.part(MOST));
    }

    /** Promise 38, "-2 it is no PARTED one": of each other KIND, HEAVY that it is under among them; ahead of -7. */
    static void partRefusesOtherKinds() {
        NoFartherThanAThrow x = new NoFartherThanAThrow();
        int[] kinds = {0, 1, 2, 3, 4, 6, 0, 0};
        for (int thing = 0; thing < 8; thing++) {
            Edges.is(x.thing(kinds[thing], 30, 9, 0), thing);
        }
        Edges.refused(x, -2, () -> x.part(0), () -> x.part(1), () -> x.part(2), () -> x.part(3), () -> x.part(4),
            () -> x.part(5), () -> x.part(6), () -> x.part(7));
        Edges.refused(x, -1, () -> x.part(8));
    }

    // ---- Terms, A NIGHT; promise 39: night ----

    /** Terms, A NIGHT: "all are half as TIRED (cut)"; promise 39, "how TIRED all are together" then. */
    static void nightHalvesAndCuts() {
        NoFartherThanAThrow x = new NoFartherThanAThrow();
        Edges.is(x.thing(6, 1, 9, 0), 0);
        Edges.people(x, 99, 99, 99, 99);
        for (int man = 1; man < 4; man++) {
            for (int n = 0; n < man; n++) {
                Edges.is(x.toss(man, 0, 1), 1);
            }
        }
        // TIRED 0, 1, 2, 3
        Edges.is(x.night(), 0 + 0 + 1 + 1);
        int[] tired = {0, 0, 1, 1};
        for (int man = 0; man < 4; man++) {
            Edges.is(x.manOf(man, 1), tired[man]);
        }
        Edges.is(x.night(), 0);
    }

    /** Terms, A NIGHT: of 99 it is 49; of eight all count. */
    static void nightOfTheMostTired() {
        NoFartherThanAThrow x = new NoFartherThanAThrow();
        Edges.is(x.ask(0, 99), 60);
        Edges.is(x.thing(6, 99, 9, 0), 0);
        Edges.people(x, 99, 99, 99, 99, 99, 99, 99, 99);
        for (int man = 0; man < 8; man++) {
            for (int n = 0; n < 10; n++) {
                Edges.is(x.toss(man, 0, 1), 1);
            }
            Edges.is(x.manOf(man, 1), 99);
        }
        Edges.is(x.night(), 8 * 49);
        Edges.is(x.manOf(0, 1), 49);
        Edges.is(x.manOf(7, 1), 49);
        Edges.is(x.night(), 8 * 24);
    }

    /** Promise 39: where nobody is there. */
    static void nightOfNobody() {
        NoFartherThanAThrow x = new NoFartherThanAThrow();
        Edges.is(x.night(), 0);
        Edges.notRefused(x);
    }

    /** Terms, A NIGHT: "LAST is NONE of all THINGS": of the first and of the last; where they are they stay. */
    static void lastIsNoneOfAllThings() {
        NoFartherThanAThrow x = new NoFartherThanAThrow();
        Edges.people(x, 99);
        for (int thing = 0; thing < 8; thing++) {
            Edges.is(x.thing(0, 1, 1, 0), thing);
            Edges.is(x.carry(0, thing, 1 + thing), 1 + thing);
            Edges.is(x.thingOf(thing, 4), 0);
        }
        Edges.is(x.night(), 4);
        for (int thing = 0; thing < 8; thing++) {
            Edges.is(x.thingOf(thing, 4), NONE);
            Edges.is(x.thingOf(thing, 3), 1 + thing);
        }
        Edges.is(x.status(9), 8);
    }

    /** Terms, A NIGHT: what is BROKEN stays so. */
    static void nightMendsNothing() {
        NoFartherThanAThrow x = new NoFartherThanAThrow();
        Edges.is(x.thing(4, 10, 1, 0), 0);
        Edges.people(x, 50);
        Edges.breakGlass(x, 0, 0);
        Edges.is(x.night(), 1);
        Edges.is(x.thingOf(0, 5), 1);
    }

    // ---- Promise 40: seed ----

    /** Promise 40, "what it was (nothing is refused)": 1 at first; 0, the least and the greatest int. */
    static void anySeedMayBe() {
        NoFartherThanAThrow x = new NoFartherThanAThrow();
        Edges.is(x.seed(0), 1);
        Edges.is(x.seed(LEAST), 0);
        Edges.is(x.seed(MOST), LEAST);
        Edges.is(x.status(7), MOST);
        Edges.is(x.seed(-1), MOST);
        Edges.is(x.seed(-1), -1);
        Edges.notRefused(x);
    }

    // ---- Terms, ACTS; promises 41 and 42: act, trace ----

    private static void acts(NoFartherThanAThrow x, int thing, int act, int v, int answer, int... trace) {
        Edges.is(x.act(thing, act, v), answer);
        Edges.is(x.status(8), trace.length);
        for (int i = 0; i < trace.length; i++) {
            Edges.is(x.trace(i), trace[i]);
        }
        Edges.is(x.trace(trace.length), NONE);
    }

    /** Promise 41, "0, and no TRACE then: no such THING": the one behind the last, below 0; nothing is refused. */
    static void noActOfNoThing() {
        NoFartherThanAThrow x = new NoFartherThanAThrow();
        acts(x, 0, 0, 7, 0);
        Edges.is(x.thing(0, 5, 1, 0), 0);
        int[] not = {1, -1, 8, LEAST, MOST};
        for (int thing : not) {
            acts(x, 0, 0, 7, 7, 10);
            acts(x, thing, 0, 7, 0);
        }
        Edges.notRefused(x);
    }

    /** Promise 41, "0, and no TRACE then: .. no such act": 3, below 0; nothing is refused. */
    static void noSuchAct() {
        NoFartherThanAThrow x = new NoFartherThanAThrow();
        Edges.is(x.thing(0, 5, 1, 0), 0);
        Edges.is(x.thing(6, 5, 1, 0), 1);
        int[] not = {3, -1, LEAST, MOST};
        for (int act : not) {
            acts(x, 0, 2, 7, 14 ^ 2, 12, 11, 10, 10);
            acts(x, 0, act, 7, 0);
            acts(x, 1, act, 7, 0);
        }
        Edges.notRefused(x);
    }

    /** Terms, ACTS "0 goes, 1 rests, 2 falls": the first and the last are acts. */
    static void actsAre0To2() {
        NoFartherThanAThrow x = new NoFartherThanAThrow();
        Edges.is(x.thing(0, 5, 1, 0), 0);
        acts(x, 0, 0, 9, 9, 10);
        acts(x, 0, 1, 9, 18, 11, 10);
        acts(x, 0, 2, 9, 18 ^ 4, 12, 11, 10, 10);
    }

    /** Terms, ACTS "m the number": of the first 0, of the last 7. */
    static void actsOfTheLastThing() {
        NoFartherThanAThrow x = new NoFartherThanAThrow();
        for (int thing = 0; thing < 8; thing++) {
            Edges.is(x.thing(0, 5, 1, 0), thing);
        }
        acts(x, 7, 0, 9, 16, 10);
        acts(x, 0, 0, 9, 9, 10);
    }

    /** Terms, ACTS "with x (wrapping)": x + m, the product, x - k, the sign. */
    static void actsWrap() {
        NoFartherThanAThrow x = new NoFartherThanAThrow();
        Edges.is(x.thing(5, 99, 9, 0), 0);
        Edges.is(x.thing(0, 99, 1, 0), 1);
        Edges.is(x.thing(2, 99, 1, 0), 2);
        acts(x, 1, 0, MOST, LEAST, 10);
        acts(x, 1, 1, MOST, 0, 11, 10);
        acts(x, 1, 2, LEAST, 2 ^ (LEAST - 99 + 1), 12, 11, 10, 10);
        // (MOST + 99) * 2 * 3
        acts(x, 0, 1, MOST, (LEAST + 98) * 6, 30, 11, 20, 10);
        // -((LEAST / 2 + 2 - 2) * 2) is LEAST again
        acts(x, 2, 1, LEAST / 2 - 2, LEAST, 50, 11, 10);
    }

    /** Terms, "THE TRACE .. in the latest act()": of a shorter one nothing of the longer is left. */
    static void traceOfTheLatest() {
        NoFartherThanAThrow x = new NoFartherThanAThrow();
        Edges.is(x.thing(6, 5, 1, 0), 0);
        acts(x, 0, 2, 7, (26 ^ 8) - 0, 41, 12, 11, 40, 20, 10, 40, 20, 10);
        acts(x, 0, 0, 7, 13, 40, 20, 10);
        Edges.is(x.trace(8), NONE);
    }

    /** Promise 42, "NONE: none such": below 0, behind the last, at 20, before any act. */
    static void noSuchBody() {
        NoFartherThanAThrow x = new NoFartherThanAThrow();
        Edges.is(x.trace(0), NONE);
        Edges.is(x.status(8), 0);
        Edges.is(x.thing(0, 5, 1, 0), 0);
        acts(x, 0, 0, 9, 9, 10);
        int[] not = {-1, 1, 19, 20, 21, LEAST, MOST};
        for (int i : not) {
            Edges.is(x.trace(i), NONE);
        }
        Edges.notRefused(x);
    }

    // ---- Promises 43 and 44: image, restore ----

    /** Promise 44, "-6 there is none". */
    static void restoreRefusesWithoutAnImage() {
        NoFartherThanAThrow x = parted(30, 3);
        Edges.refused(x, -6, () -> x.restore(), () -> x.restore());
        Edges.is(x.image(), 1);
        Edges.is(x.restore(), 1);
    }

    /** Promise 43 "how many THINGS": none, all eight; promise 44 likewise. */
    static void imageOfNoneAndOfAll() {
        NoFartherThanAThrow x = new NoFartherThanAThrow();
        Edges.is(x.image(), 0);
        for (int thing = 0; thing < 8; thing++) {
            Edges.is(x.thing(0, 1, 1, 0), thing);
        }
        Edges.is(x.restore(), 0);
        Edges.is(x.status(0), 0);
        for (int thing = 0; thing < 8; thing++) {
            Edges.is(x.thing(0, 1, 1, 0), thing);
        }
        Edges.is(x.image(), 8);
        Edges.is(x.restore(), 8);
    }

    /** Promise 44 "All is as THE IMAGE has it", again and again; a new image() takes its place. */
    static void restoreAgain() {
        NoFartherThanAThrow x = parted(30, 3);
        Edges.people(x, 99);
        Edges.is(x.image(), 1);
        for (int n = 0; n < 2; n++) {
            Edges.is(x.carry(0, 0, 3), 10);
            Edges.is(x.restore(), 1);
            thingIs(x, 0, 5, 30, 3, 7, NONE, 0);
            Edges.is(x.manOf(0, 1), 0);
        }
        Edges.is(x.carry(0, 0, 3), 10);
        Edges.is(x.image(), 1);
        Edges.is(x.night(), 2);
        Edges.is(x.restore(), 1);
        thingIs(x, 0, 5, 30, 3, 10, 0, 0);
        Edges.is(x.manOf(0, 1), 4);
    }

    /** Promise 43 "all but SHELVES": LONG, THE RIVER, WIND, SEED, WANTS, PEOPLE, the count of CARRIES come back. */
    static void restoreBringsAllBack() {
        NoFartherThanAThrow x = new NoFartherThanAThrow();
        Edges.is(x.image(), 0);
        Edges.is(x.ask(0, 99), 60);
        Edges.is(x.ask(1, 9), 0);
        Edges.is(x.river(20, 25), 1);
        Edges.is(x.seed(5), 1);
        Edges.is(x.thing(4, 10, 1, 0), 0);
        Edges.people(x, 50);
        Edges.is(x.want(0, 9, 1), 0);
        Edges.is(x.carry(0, 0, 1), 1);
        int[] first = {0, 0, 0, 60, 0, 0, 0, 1, 0, 0};
        Edges.is(x.restore(), 0);
        for (int what = 0; what <= 9; what++) {
            Edges.is(x.status(what), first[what]);
        }
    }

    /** Promise 43 "all but SHELVES (and THE IMAGE, REFUSALS, the FAULT, THE TRACE)": those stay as they are. */
    static void whatAnImageDoesNotHave() {
        NoFartherThanAThrow x = parted(30, 3);
        Edges.is(x.image(), 1);
        Due.numbers(x, 0, 3, 7, 8);
        Due.text(x, 1, 0, "man?");
        Edges.is(x.valley(1), -6);
        Edges.is(x.thingOf(9, 9), -5);
        Edges.is(x.act(0, 0, 1), 31);
        Edges.is(x.restore(), 1);
        Due.elements(x, 0, 7, 8);
        Edges.is(x.fault(), 3);
        Edges.is(x.trace(0), 20);
        Edges.is(x.status(8), 2);
        Edges.is(x.status(15), 1);
        Edges.is(x.status(16), 1);
        Edges.is(x.restore(), 1);
    }

    /** Promise 44, "SHELVES with THINGS hold those of these numbers, or NOTHING": the last that is, the next isn't. */
    static void shelvesAfterARestore() {
        NoFartherThanAThrow x = parted(30, 3);
        Edges.is(x.thing(1, 50, 2, 0), 1);
        Edges.is(x.image(), 2);
        Edges.is(x.thing(1, 60, 2, 0), 2);
        Edges.is(x.part(0), 5);
        for (int s = 0; s < 5; s++) {
            Edges.is(x.show(s, s), 1);
        }
        Edges.is(x.row(5, 2, 1), 1);
        Edges.is(x.restore(), 2);
        int[] held = {0, 1, NONE, NONE, NONE, 102, NONE, NONE};
        for (int s = 0; s < 8; s++) {
            Edges.is(x.holds(s), held[s]);
        }
        Edges.is(x.says(0, 5), 3);
        Edges.is(x.thing(0, 1, 1, 0), 2);
        Edges.is(x.holds(2), NONE);
    }

    /** Promise 44: of THINGS that come back a SHELF doesn't hold what it held once. */
    static void restoreShowsNothing() {
        NoFartherThanAThrow x = parted(30, 3);
        Edges.is(x.show(0, 0), 1);
        Edges.is(x.image(), 1);
        Edges.is(x.show(0, -1), 0);
        Edges.is(x.restore(), 1);
        Edges.is(x.holds(0), NONE);
    }

    // ---- Promise 45: status ----

    /** Promise 45, "NONE for another what": next to those that are, and as far as ints go; no refusal. */
    static void statusOfAnotherWhat() {
        NoFartherThanAThrow x = new NoFartherThanAThrow();
        int[] not = {-1, 10, 18, 19, LEAST, MOST, -11, -17};
        for (int what : not) {
            Edges.is(x.status(what), NONE);
        }
        Edges.notRefused(x);
    }

    /** Promise 45, "8 bodies that ran in the latest act()": none before it, none where none was. */
    static void statusOfBodies() {
        NoFartherThanAThrow x = new NoFartherThanAThrow();
        Edges.is(x.status(8), 0);
        Edges.is(x.thing(0, 5, 1, 0), 0);
        Edges.is(x.act(0, 2, 1), 2 ^ -4);
        Edges.is(x.status(8), 4);
        Edges.is(x.act(1, 2, 1), 0);
        Edges.is(x.status(8), 0);
    }

    /** Promise 45, "9 CARRIES and throws in truth": those refused, judged and asked for are none. */
    static void statusOfCarriesAndThrows() {
        NoFartherThanAThrow x = new NoFartherThanAThrow();
        Edges.is(x.thing(0, 10, 1, 0), 0);
        Edges.people(x, 40);
        Due.numbers(x, 0, 3, 0, 1);
        Edges.is(x.judge(0, 0, 1), NONE);
        Edges.is(x.wrong(0, 0, 1), 0);
        Edges.is(x.caught(0, 0, 1), 10);
        Edges.is(x.carry(0, 0, 41), -6);
        Edges.is(x.toss(0, 0, 41), -6);
        Edges.is(x.status(9), 0);
        Edges.is(x.carry(0, 0, 1), 1);
        Edges.is(x.status(9), 1);
        Edges.is(x.toss(0, 0, 1), 1);
        Edges.is(x.status(9), 2);
        Edges.is(x.toss(0, 0, 40), 0);
        Edges.is(x.status(9), 3);
    }

    /** Promise 45, "11 to 17: REFUSALS -1 to -7": each by itself. */
    static void statusOfEachRefusal() {
        NoFartherThanAThrow x = parted(30, 9);
        Edges.is(x.show(7, 0), 1);
        for (int n = 1; n <= 7; n++) {
            Edges.is(n > 1 ? -1 : x.row(8, 0, 1), -1);
            Edges.is(n > 2 ? -2 : x.set(7, 0, 1), -2);
            Edges.is(n > 3 ? -3 : x.set(6, 0, 1), -3);
            Edges.is(n > 4 ? -4 : x.row(0, 0, -1), -4);
            Edges.is(n > 5 ? -5 : x.manOf(0, 0), -5);
            Edges.is(n > 6 ? -6 : x.man(0), -6);
            Edges.is(n % 2 == 0 ? x.part(0) : x.row(0, 0, 161), -7);
        }
        for (int number = 1; number <= 7; number++) {
            Edges.is(x.status(10 + number), number);
        }
    }

    /** Promises 28, 30, 31, 33, 36: -11 and -16 are "counted as -1, -6". */
    static void statusOfRefusalsTenLess() {
        NoFartherThanAThrow x = parted(30, 3);
        Edges.people(x, 5);
        Edges.is(x.handovers(1, 9), -11);
        Edges.is(x.given(1), -11);
        Edges.is(x.mill(1, 9, 1), -11);
        Edges.is(x.helps(1, 1, 9, 0), -11);
        Edges.is(x.cast(1, 0), -11);
        Edges.is(x.status(11), 5);
        Edges.is(x.handovers(0, 7), -16);
        Edges.is(x.mill(0, 9, 0), -16);
        Edges.is(x.helps(0, 1, 7, 0), -16);
        Edges.is(x.status(16), 3);
        Edges.is(x.status(12) + x.status(13) + x.status(14) + x.status(15) + x.status(17), 0);
    }

    /** What it is, "at most 512 calls": the 512th still answers as is due. */
    static void the512thCall() {
        NoFartherThanAThrow x = new NoFartherThanAThrow();
        for (int call = 1; call <= 510; call++) {
            Edges.is(x.man(0), -6);
        }
        Edges.is(x.status(16), 510);
        Edges.is(x.man(9), 0);
    }

    /** What it is: two objects have nothing to do with one another. */
    static void twoObjects() {
        NoFartherThanAThrow x = parted(30, 3);
        NoFartherThanAThrow y = new NoFartherThanAThrow();
        Edges.is(y.status(0), 0);
        Edges.is(x.image(), 1);
        Edges.refused(y, -6, () -> y.restore());
        Edges.is(x.show(0, 0), 1);
        Edges.is(y.holds(0), NONE);
        Edges.is(x.act(0, 1, 1), (1 + 30) * 6);
        Edges.is(y.status(8), 0);
        Edges.is(x.seed(9), 1);
        Edges.is(y.seed(8), 1);
        Edges.is(x.status(7), 9);
    }
}
