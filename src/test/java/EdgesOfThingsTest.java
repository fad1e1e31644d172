/** Promises 1 and 9 to 17, and the Terms of THINGS, PEOPLE, WANTS, THE WAY, THE RIVER, WIND: the boundary cases. */
public final class EdgesOfThingsTest {
    private static final int LEAST = Edges.LEAST;
    private static final int MOST = Edges.MOST;

    public static void main(String[] args) throws IllegalAccessException {
        Edges.run(EdgesOfThingsTest.class);
    }

    private static NoFartherThanAThrow one() {
        NoFartherThanAThrow x = new NoFartherThanAThrow();
        Edges.is(x.thing(0, 10, 1, 30), 0);
        return x;
    }

    // ---- Promise 1 and what the Terms say is so at first ----

    /** Promise 1, "No THINGS, PEOPLE, WANTS". */
    static void aNewObjectHasNone() {
        NoFartherThanAThrow x = new NoFartherThanAThrow();
        Edges.is(x.status(0), 0);
        Edges.is(x.status(1), 0);
        Edges.is(x.status(2), 0);
        Edges.refused(x, -5, () -> x.thingOf(0, 0), () -> x.manOf(0, 0), () -> x.wantOf(0, 0));
    }

    /** Terms, "LONG (.. 60 at first)". */
    static void longIs60AtFirst() {
        Edges.is(new NoFartherThanAThrow().status(3), 60);
    }

    /** Terms, THE RIVER "at first 0 and 0: none": no step of THE WAY is in it. */
    static void noRiverAtFirst() {
        NoFartherThanAThrow x = new NoFartherThanAThrow();
        Edges.is(x.status(4), 0);
        Edges.is(x.status(5), 0);
        for (int i = 0; i < 8; i++) {
            Edges.is(x.thing(0, 1, 1, i), i);
        }
    }

    /** Terms, "WIND (.. 0 at first)". */
    static void noWindAtFirst() {
        Edges.is(new NoFartherThanAThrow().status(6), 0);
    }

    /** Terms, "LAST: who had it last (NONE at first)", also where there are PEOPLE. */
    static void nobodyHadItAtFirst() {
        NoFartherThanAThrow x = new NoFartherThanAThrow();
        Edges.people(x, 5);
        Edges.is(x.thing(0, 1, 1, 0), 0);
        Edges.is(x.thingOf(0, 4), -1);
    }

    /** Terms, "BROKEN or not (at first not)": GLASS too. */
    static void notBrokenAtFirst() {
        NoFartherThanAThrow x = new NoFartherThanAThrow();
        Edges.is(x.thing(4, 1, 1, 0), 0);
        Edges.is(x.thingOf(0, 5), 0);
    }

    /** Terms, "TIRED (.. 0 at first)". */
    static void notTiredAtFirst() {
        NoFartherThanAThrow x = new NoFartherThanAThrow();
        Edges.is(x.man(99), 0);
        Edges.is(x.manOf(0, 1), 0);
    }

    /** Terms, "at first": also of those that come where others were put away by restore(), of which nothing is left. */
    static void newOnesAreNewAfterARestore() {
        NoFartherThanAThrow x = new NoFartherThanAThrow();
        Edges.is(x.image(), 0);
        Edges.is(x.thing(4, 10, 1, 0), 0);
        Edges.people(x, 9);
        Edges.is(x.carry(0, 0, 1), 1);
        Edges.breakGlass(x, 0, 0);
        Edges.is(x.restore(), 0);
        Edges.is(x.thing(4, 10, 1, 0), 0);
        Edges.is(x.man(9), 0);
        Edges.is(x.thingOf(0, 4), -1);
        Edges.is(x.thingOf(0, 5), 0);
        Edges.is(x.manOf(0, 1), 0);
    }

    // ---- Terms, THE WAY and THE RIVER ----

    /** Terms, "THE WAY has steps 0 to LONG": a THING and a WANT at the first step and at the last, none off it. */
    static void theWayHasSteps0ToLong() {
        NoFartherThanAThrow x = new NoFartherThanAThrow();
        Edges.is(x.thing(0, 1, 1, 0), 0);
        Edges.is(x.thing(0, 1, 1, 60), 1);
        Edges.is(x.want(0, 0, 1), 0);
        Edges.is(x.want(0, 60, 1), 1);
        Edges.refused(x, -6, () -> x.thing(0, 1, 1, -1), () -> x.thing(0, 1, 1, 61), () -> x.want(0, -1, 1),
            () -> x.want(0, 61, 1));
        Edges.is(x.ask(0, 99), 60);
        Edges.is(x.thing(0, 1, 1, 99), 2);
        Edges.is(x.want(0, 99, 1), 2);
        Edges.refused(x, -6, () -> x.thing(0, 1, 1, 100), () -> x.want(0, 100, 1));
    }

    /** Terms, "at a step above FROM and below TO": FROM and TO themselves are not in THE RIVER. */
    static void theRiverIsAboveFromAndBelowTo() {
        NoFartherThanAThrow x = new NoFartherThanAThrow();
        Edges.is(x.river(20, 25), 1);
        Edges.is(x.thing(0, 1, 1, 20), 0);
        Edges.is(x.thing(0, 1, 1, 25), 1);
        Edges.is(x.want(0, 20, 1), 0);
        Edges.is(x.want(0, 25, 1), 1);
        for (int step = 21; step <= 24; step++) {
            int in = step;
            Edges.refused(x, -6, () -> x.thing(0, 1, 1, in), () -> x.want(0, in, 1));
        }
    }

    /** Terms, THE RIVER: of one step and of none nothing is in it. */
    static void aNarrowRiverHasNoStep() {
        NoFartherThanAThrow x = new NoFartherThanAThrow();
        Edges.is(x.river(20, 21), 1);
        Edges.is(x.thing(0, 1, 1, 20), 0);
        Edges.is(x.thing(0, 1, 1, 21), 1);
        Edges.is(x.river(20, 20), 1);
        Edges.is(x.thing(0, 1, 1, 20), 2);
        Edges.is(x.river(30, 32), 1);
        Edges.refused(x, -6, () -> x.thing(0, 1, 1, 31));
    }

    // ---- Promise 9: thing ----

    /** Terms, "THINGS have numbers, from 0 on, 8 at most"; promise 9, "the number", "-7". */
    static void eightThingsAtMost() {
        NoFartherThanAThrow x = new NoFartherThanAThrow();
        for (int i = 0; i < 8; i++) {
            Edges.is(x.thing(0, 1, 1, 0), i);
        }
        Edges.is(x.status(0), 8);
        Edges.refused(x, -7, () -> x.thing(0, 1, 1, 0), () -> x.thing(6, 99, 9, 60));
    }

    /** Terms, the KINDS 0 to 6: the first and the last. */
    static void kindsAre0To6() {
        NoFartherThanAThrow x = new NoFartherThanAThrow();
        for (int kind = 0; kind <= 6; kind++) {
            Edges.is(x.thing(kind, 1, 1, 0), kind);
            Edges.is(x.thingOf(kind, 0), kind);
        }
    }

    /** Promise 9, "-1 KIND". */
    static void thingRefusesNoKind() {
        NoFartherThanAThrow x = one();
        Edges.refused(x, -1, () -> x.thing(-1, 1, 1, 0), () -> x.thing(7, 1, 1, 0), () -> x.thing(LEAST, 1, 1, 0),
            () -> x.thing(MOST, 1, 1, 0));
    }

    /** Terms, "a WEIGHT (1 to 99)"; promise 9, "-6 WEIGHT". */
    static void weightsAre1To99() {
        NoFartherThanAThrow x = new NoFartherThanAThrow();
        Edges.is(x.thing(0, 1, 1, 0), 0);
        Edges.is(x.thingOf(0, 1), 1);
        Edges.is(x.thing(0, 99, 1, 0), 1);
        Edges.is(x.thingOf(1, 1), 99);
        Edges.refused(x, -6, () -> x.thing(0, 0, 1, 0), () -> x.thing(0, 100, 1, 0), () -> x.thing(0, -1, 1, 0),
            () -> x.thing(0, LEAST, 1, 0), () -> x.thing(0, MOST, 1, 0));
    }

    /** Terms, "EXTRA (1 to 9)"; promise 9, "-6 EXTRA". */
    static void extrasAre1To9() {
        NoFartherThanAThrow x = new NoFartherThanAThrow();
        Edges.is(x.thing(0, 1, 1, 0), 0);
        Edges.is(x.thingOf(0, 2), 1);
        Edges.is(x.thing(0, 1, 9, 0), 1);
        Edges.is(x.thingOf(1, 2), 9);
        Edges.refused(x, -6, () -> x.thing(0, 1, 0, 0), () -> x.thing(0, 1, 10, 0), () -> x.thing(0, 1, -1, 0),
            () -> x.thing(0, 1, LEAST, 0), () -> x.thing(0, 1, MOST, 0));
    }

    /** Promise 9, "-6 STEP": off THE WAY, in THE RIVER. */
    static void thingRefusesAStepThatMayNotBe() {
        NoFartherThanAThrow x = new NoFartherThanAThrow();
        Edges.is(x.river(20, 22), 1);
        Edges.refused(x, -6, () -> x.thing(0, 1, 1, -1), () -> x.thing(0, 1, 1, 61), () -> x.thing(0, 1, 1, 21),
            () -> x.thing(0, 1, 1, LEAST), () -> x.thing(0, 1, 1, MOST));
    }

    /** REFUSALS, "the first that fits, in this order", of promise 9. */
    static void thingRefusesInOrder() {
        NoFartherThanAThrow x = new NoFartherThanAThrow();
        Edges.refused(x, -1, () -> x.thing(7, 0, 1, 0), () -> x.thing(7, 1, 0, 0), () -> x.thing(-1, 1, 1, -1));
        for (int i = 0; i < 8; i++) {
            Edges.is(x.thing(0, 1, 1, 0), i);
        }
        Edges.refused(x, -1, () -> x.thing(7, 1, 1, 0));
        Edges.refused(x, -6, () -> x.thing(0, 0, 1, 0), () -> x.thing(0, 1, 10, 0), () -> x.thing(0, 1, 1, 61));
    }

    // ---- Promise 10: man ----

    /** Terms, "PEOPLE have numbers, from 0 on, 8 at most"; promise 10, "the number", "-7". */
    static void eightPeopleAtMost() {
        NoFartherThanAThrow x = new NoFartherThanAThrow();
        for (int i = 0; i < 8; i++) {
            Edges.is(x.man(1 + i), i);
        }
        Edges.is(x.status(1), 8);
        Edges.refused(x, -7, () -> x.man(1), () -> x.man(99));
    }

    /** Terms, "STRENGTH (1 to 99)"; promise 10, "-6". */
    static void strengthsAre1To99() {
        NoFartherThanAThrow x = new NoFartherThanAThrow();
        Edges.is(x.man(1), 0);
        Edges.is(x.manOf(0, 0), 1);
        Edges.is(x.man(99), 1);
        Edges.is(x.manOf(1, 0), 99);
        Edges.refused(x, -6, () -> x.man(0), () -> x.man(100), () -> x.man(-1), () -> x.man(LEAST), () -> x.man(MOST));
    }

    /** REFUSALS, "the first that fits, in this order", of promise 10. */
    static void manRefusesInOrder() {
        NoFartherThanAThrow x = new NoFartherThanAThrow();
        Edges.people(x, 1, 1, 1, 1, 1, 1, 1, 1);
        Edges.refused(x, -6, () -> x.man(0), () -> x.man(100));
    }

    // ---- Promise 11: men ----

    /** Promise 11, "until one that can't be": 0 and 100 can't, what stands behind them doesn't come. */
    static void menComeUntilOneThatCantBe() {
        int[] cant = {0, 100, -1};
        for (int strength : cant) {
            NoFartherThanAThrow x = new NoFartherThanAThrow();
            Due.numbers(x, 0, 3, 1, 99, strength, 5);
            Edges.is(x.men(0, 0, 4), 2);
            Edges.is(x.status(1), 2);
            Edges.is(x.manOf(0, 0), 1);
            Edges.is(x.manOf(1, 0), 99);
        }
    }

    /** Promise 11, "until one that can't be": the very first, which is no refusal. */
    static void menComeNotAtAll() {
        NoFartherThanAThrow x = new NoFartherThanAThrow();
        Due.numbers(x, 0, 3, 0, 5);
        Edges.is(x.men(0, 0, 2), 0);
        Edges.is(x.status(1), 0);
        Edges.notRefused(x);
    }

    /** Promise 11, "or that there is no room for": the eighth comes, the ninth doesn't, which is no refusal. */
    static void menComeUntilThereIsNoRoom() {
        NoFartherThanAThrow x = new NoFartherThanAThrow();
        Due.numbers(x, 0, 3, 1, 2, 3, 4, 5, 6, 7, 8, 9);
        Edges.is(x.men(0, 0, 9), 8);
        Edges.is(x.manOf(7, 0), 8);
        Edges.is(x.men(0, 0, 9), 0);
        Edges.is(x.status(1), 8);
        Edges.notRefused(x);
    }

    /** Promise 11, "by n elements .. from i on": none, one, all, no more than n. */
    static void menByNElements() {
        NoFartherThanAThrow x = new NoFartherThanAThrow();
        Due.numbers(x, 0, 3, 11, 12, 13);
        Edges.is(x.men(0, 0, 0), 0);
        Edges.is(x.men(0, 3, 0), 0);
        Edges.is(x.men(0, 2, 1), 1);
        Edges.is(x.manOf(0, 0), 13);
        Edges.is(x.men(0, 0, 2), 2);
        Edges.is(x.status(1), 3);
        Edges.is(x.men(0, 0, 3), 3);
        Edges.notRefused(x);
    }

    /** Terms, "(As ints: of longs the lowest 32 bits)", of promise 11. */
    static void menByTheLowest32Bits() {
        NoFartherThanAThrow x = new NoFartherThanAThrow();
        Due.numbers(x, 0, 3, (1L << 32) + 7, 7L << 32, 5);
        Edges.is(x.men(0, 0, 3), 1);
        Edges.is(x.manOf(0, 0), 7);
    }

    /** Terms, "what is put in keeps its lowest bits", of promise 11: by bytes a 200 is -56, which can't be. */
    static void menByBytes() {
        NoFartherThanAThrow x = new NoFartherThanAThrow();
        Due.numbers(x, 0, 0, 256 + 9, 200, 5);
        Edges.is(x.men(0, 0, 3), 1);
        Edges.is(x.manOf(0, 0), 9);
    }

    /** Promise 11, "-1". */
    static void menRefusesNoShelf() {
        NoFartherThanAThrow x = new NoFartherThanAThrow();
        Edges.refused(x, -1, () -> x.men(-1, 0, 0), () -> x.men(8, 0, 0), () -> x.men(LEAST, 0, 0),
            () -> x.men(MOST, 0, 0));
    }

    /** Promise 11, "-2". */
    static void menRefusesAThing() {
        NoFartherThanAThrow x = one();
        Edges.is(x.show(0, 0), 1);
        Edges.refused(x, -2, () -> x.men(0, 0, 0));
    }

    /** Promise 11, "-3". */
    static void menRefusesNothing() {
        NoFartherThanAThrow x = new NoFartherThanAThrow();
        Edges.refused(x, -3, () -> x.men(0, 0, 0));
    }

    /** Promise 11, "-4 n". */
    static void menRefusesASizeBelow0() {
        NoFartherThanAThrow x = new NoFartherThanAThrow();
        Due.numbers(x, 0, 3, 11, 12, 13);
        Edges.refused(x, -4, () -> x.men(0, 0, -1), () -> x.men(0, 1, LEAST));
    }

    /** Promise 11, "-5": an element that isn't there; nobody comes by those that are. */
    static void menRefusesNoElement() {
        NoFartherThanAThrow x = new NoFartherThanAThrow();
        Due.numbers(x, 0, 3, 11, 12, 13);
        Edges.refused(x, -5, () -> x.men(0, -1, 1), () -> x.men(0, -1, 0), () -> x.men(0, 0, 4), () -> x.men(0, 1, 3),
            () -> x.men(0, 3, 1), () -> x.men(0, 4, 0), () -> x.men(0, LEAST, 1), () -> x.men(0, MOST, MOST),
            () -> x.men(0, 1, MOST));
    }

    /** REFUSALS, "the first that fits, in this order", of promise 11. */
    static void menRefusesInOrder() {
        NoFartherThanAThrow x = one();
        Edges.is(x.show(0, 0), 1);
        Due.numbers(x, 1, 3, 11, 12, 13);
        Edges.refused(x, -1, () -> x.men(8, -1, -1));
        Edges.refused(x, -2, () -> x.men(0, 0, -1), () -> x.men(0, -1, 1));
        Edges.refused(x, -3, () -> x.men(2, 0, -1), () -> x.men(2, -1, 1));
        Edges.refused(x, -4, () -> x.men(1, -1, -1), () -> x.men(1, 4, -1));
    }

    // ---- Promise 12: want ----

    /** Terms, "WANTS have numbers, from 0 on, 4 at most"; promise 12, "its number", "-7". */
    static void fourWantsAtMost() {
        NoFartherThanAThrow x = one();
        for (int i = 0; i < 4; i++) {
            Edges.is(x.want(0, 40, 1), i);
        }
        Edges.is(x.status(2), 4);
        Edges.refused(x, -7, () -> x.want(0, 40, 1), () -> x.want(0, 0, 0));
    }

    /** Terms, "a WORTH (0 to 99)"; promise 12, "-6". */
    static void worthsAre0To99() {
        NoFartherThanAThrow x = one();
        Edges.is(x.want(0, 40, 0), 0);
        Edges.is(x.wantOf(0, 2), 0);
        Edges.is(x.want(0, 40, 99), 1);
        Edges.is(x.wantOf(1, 2), 99);
        Edges.refused(x, -6, () -> x.want(0, 40, -1), () -> x.want(0, 40, 100), () -> x.want(0, 40, LEAST),
            () -> x.want(0, 40, MOST));
    }

    /** Promise 12, "-6": a STEP off THE WAY, in THE RIVER. */
    static void wantRefusesAStepThatMayNotBe() {
        NoFartherThanAThrow x = one();
        Edges.is(x.river(20, 22), 1);
        Edges.refused(x, -6, () -> x.want(0, -1, 1), () -> x.want(0, 61, 1), () -> x.want(0, 21, 1),
            () -> x.want(0, LEAST, 1), () -> x.want(0, MOST, 1));
    }

    /** Promise 12, "-1 THING": of the THINGS the last may be, the next may not. */
    static void wantRefusesNoThing() {
        NoFartherThanAThrow x = one();
        Edges.is(x.thing(0, 1, 1, 0), 1);
        Edges.is(x.want(1, 40, 1), 0);
        Edges.is(x.wantOf(0, 0), 1);
        Edges.refused(x, -1, () -> x.want(2, 40, 1), () -> x.want(-1, 40, 1), () -> x.want(LEAST, 40, 1),
            () -> x.want(MOST, 40, 1));
    }

    /** REFUSALS, "the first that fits, in this order", of promise 12. */
    static void wantRefusesInOrder() {
        NoFartherThanAThrow x = one();
        Edges.refused(x, -1, () -> x.want(1, 61, 1), () -> x.want(1, 40, 100));
        for (int i = 0; i < 4; i++) {
            Edges.is(x.want(0, 40, 1), i);
        }
        Edges.refused(x, -1, () -> x.want(1, 40, 1));
        Edges.refused(x, -6, () -> x.want(0, 61, 1), () -> x.want(0, 40, 100));
    }

    // ---- Promise 13: ask ----

    /** Terms, "LONG (1 to 99 ..)"; promise 13, "what it was". */
    static void longIs1To99() {
        NoFartherThanAThrow x = new NoFartherThanAThrow();
        Edges.is(x.ask(0, 1), 60);
        Edges.is(x.status(3), 1);
        Edges.is(x.ask(0, 99), 1);
        Edges.is(x.status(3), 99);
        Edges.refused(x, -6, () -> x.ask(0, 0), () -> x.ask(0, 100), () -> x.ask(0, -1), () -> x.ask(0, LEAST),
            () -> x.ask(0, MOST));
        Edges.is(x.ask(0, 99), 99);
    }

    /** Terms, "WIND (0 to 9 ..)"; promise 13, "what it was". */
    static void windIs0To9() {
        NoFartherThanAThrow x = new NoFartherThanAThrow();
        Edges.is(x.ask(1, 9), 0);
        Edges.is(x.status(6), 9);
        Edges.is(x.ask(1, 0), 9);
        Edges.is(x.status(6), 0);
        Edges.refused(x, -6, () -> x.ask(1, -1), () -> x.ask(1, 10), () -> x.ask(1, LEAST), () -> x.ask(1, MOST));
    }

    /** Promise 13: another what than 0 and 1 may not be. */
    static void asksForLongAndWindAlone() {
        NoFartherThanAThrow x = new NoFartherThanAThrow();
        Edges.refused(x, -6, () -> x.ask(2, 5), () -> x.ask(-1, 5), () -> x.ask(LEAST, 5), () -> x.ask(MOST, 5));
    }

    /** Promise 13, "-6 also LONG less than a STEP that is told": that of a THING. */
    static void longIsNotLessThanAThingsStep() {
        NoFartherThanAThrow x = new NoFartherThanAThrow();
        Edges.is(x.thing(0, 1, 1, 50), 0);
        Edges.is(x.thing(0, 1, 1, 3), 1);
        Edges.refused(x, -6, () -> x.ask(0, 49));
        Edges.is(x.ask(0, 50), 60);
        Edges.people(x, 5);
        Edges.is(x.carry(0, 0, -1), 49);
        Edges.refused(x, -6, () -> x.ask(0, 48));
        Edges.is(x.ask(0, 49), 50);
    }

    /** Promise 13, "-6 also LONG less than a STEP that is told": that of a WANT. */
    static void longIsNotLessThanAWantsStep() {
        NoFartherThanAThrow x = new NoFartherThanAThrow();
        Edges.is(x.thing(0, 1, 1, 0), 0);
        Edges.is(x.want(0, 50, 0), 0);
        Edges.is(x.want(0, 3, 0), 1);
        Edges.refused(x, -6, () -> x.ask(0, 49));
        Edges.is(x.ask(0, 50), 60);
    }

    /** Promise 13, "-6 also LONG less than a STEP that is told": of STEPS up to 99. */
    static void longIsNotLessThan99Told() {
        NoFartherThanAThrow x = new NoFartherThanAThrow();
        Edges.is(x.ask(0, 99), 60);
        Edges.is(x.thing(0, 1, 1, 99), 0);
        Edges.refused(x, -6, () -> x.ask(0, 98), () -> x.ask(0, 1));
        NoFartherThanAThrow y = new NoFartherThanAThrow();
        Edges.is(y.ask(0, 99), 60);
        Edges.is(y.thing(0, 1, 1, 0), 0);
        Edges.is(y.want(0, 99, 1), 0);
        Edges.refused(y, -6, () -> y.ask(0, 98), () -> y.ask(0, 1));
    }

    /** Promise 13, "-6 also LONG less .. than TO". */
    static void longIsNotLessThanTo() {
        NoFartherThanAThrow x = new NoFartherThanAThrow();
        Edges.is(x.river(10, 50), 1);
        Edges.refused(x, -6, () -> x.ask(0, 49), () -> x.ask(0, 10));
        Edges.is(x.ask(0, 50), 60);
        NoFartherThanAThrow y = new NoFartherThanAThrow();
        Edges.is(y.river(50, 50), 1);
        Edges.refused(y, -6, () -> y.ask(0, 49));
    }

    // ---- Promise 14: river ----

    /** Terms, THE RIVER "0 to 99 each": 0, 99, and none farther. */
    static void riverIsFrom0To99() {
        NoFartherThanAThrow x = new NoFartherThanAThrow();
        Edges.is(x.ask(0, 99), 60);
        Edges.is(x.river(0, 99), 1);
        Edges.is(x.status(4), 0);
        Edges.is(x.status(5), 99);
        Edges.is(x.river(99, 99), 1);
        Edges.is(x.status(4), 99);
        Edges.is(x.river(0, 0), 1);
        Edges.refused(x, -6, () -> x.river(-1, 5), () -> x.river(-1, -1), () -> x.river(5, 100), () -> x.river(100, 100),
            () -> x.river(LEAST, 5), () -> x.river(5, MOST), () -> x.river(MOST, MOST), () -> x.river(LEAST, LEAST));
    }

    /** Terms, "FROM no more than TO": as much may be. */
    static void fromIsNoMoreThanTo() {
        NoFartherThanAThrow x = new NoFartherThanAThrow();
        Edges.is(x.river(5, 5), 1);
        Edges.refused(x, -6, () -> x.river(6, 5), () -> x.river(60, 0));
    }

    /** Promise 14, "-6 also TO above LONG". */
    static void toIsNotAboveLong() {
        NoFartherThanAThrow x = new NoFartherThanAThrow();
        Edges.is(x.river(5, 60), 1);
        Edges.refused(x, -6, () -> x.river(5, 61));
        Edges.is(x.river(60, 60), 1);
        Edges.refused(x, -6, () -> x.river(61, 61));
    }

    /** Promise 14, "-6 also .. a THING .. in it": at FROM and at TO it isn't. */
    static void noThingIsInTheRiver() {
        NoFartherThanAThrow x = one();
        Edges.refused(x, -6, () -> x.river(29, 31), () -> x.river(0, 60), () -> x.river(29, 60), () -> x.river(0, 31));
        Edges.is(x.river(30, 60), 1);
        Edges.is(x.river(0, 30), 1);
        Edges.is(x.river(30, 30), 1);
    }

    /** Promise 14, "-6 also .. a .. WANT in it": at FROM and at TO it isn't. */
    static void noWantIsInTheRiver() {
        NoFartherThanAThrow x = one();
        Edges.is(x.want(0, 50, 0), 0);
        Edges.refused(x, -6, () -> x.river(49, 51), () -> x.river(31, 60), () -> x.river(49, 60));
        Edges.is(x.river(50, 60), 1);
        Edges.is(x.river(30, 50), 1);
        Edges.is(x.river(50, 50), 1);
    }

    /** Promise 14: of several THINGS and WANTS the last counts too. */
    static void noneOfSeveralIsInTheRiver() {
        NoFartherThanAThrow x = new NoFartherThanAThrow();
        for (int i = 0; i < 8; i++) {
            Edges.is(x.thing(0, 1, 1, i < 7 ? 0 : 20), i);
        }
        for (int i = 0; i < 4; i++) {
            Edges.is(x.want(0, i < 3 ? 0 : 40, 1), i);
        }
        Edges.refused(x, -6, () -> x.river(19, 21), () -> x.river(39, 41));
        Edges.refused(x, -6, () -> x.ask(0, 39), () -> x.ask(0, 19));
    }

    // ---- Promises 15 to 17: thingOf, manOf, wantOf ----

    /** Promise 15: what 0 to 5 of the last THING there is. */
    static void thingOfTheLast() {
        NoFartherThanAThrow x = new NoFartherThanAThrow();
        for (int i = 0; i < 8; i++) {
            Edges.is(x.thing(6, 90 + i, 1 + i, i), i);
        }
        int[] told = {6, 97, 8, 7, -1, 0};
        for (int what = 0; what <= 5; what++) {
            Edges.is(x.thingOf(7, what), told[what]);
        }
    }

    /** Promise 15, "-5: no such one". */
    static void thingOfRefusesNoThing() {
        NoFartherThanAThrow x = one();
        Edges.refused(x, -5, () -> x.thingOf(1, 0), () -> x.thingOf(-1, 0), () -> x.thingOf(8, 3),
            () -> x.thingOf(LEAST, 0), () -> x.thingOf(MOST, 0));
    }

    /** Promise 15, "-5: .. another what". */
    static void thingOfRefusesAnotherWhat() {
        NoFartherThanAThrow x = one();
        Edges.is(x.thing(0, 1, 1, 0), 1);
        Edges.refused(x, -5, () -> x.thingOf(0, -1), () -> x.thingOf(0, 6), () -> x.thingOf(1, -1),
            () -> x.thingOf(0, LEAST), () -> x.thingOf(0, MOST), () -> x.thingOf(2, 6));
    }

    /** Promise 15, "(NONE as -1.)": LAST of a THING that nobody had is an answer, no refusal. */
    static void lastOfNobodyIsNone() {
        NoFartherThanAThrow x = one();
        Edges.is(x.thingOf(0, 4), -1);
        Edges.notRefused(x);
    }

    /** Promise 16: STRENGTH and TIRED of the last of eight. */
    static void manOfTheLast() {
        NoFartherThanAThrow x = one();
        Edges.people(x, 1, 2, 3, 4, 5, 6, 7, 99);
        Edges.is(x.carry(7, 0, 1), 31);
        Edges.is(x.manOf(7, 0), 99);
        Edges.is(x.manOf(7, 1), 2);
    }

    /** Promise 16, "-5: no such one". */
    static void manOfRefusesNoMan() {
        NoFartherThanAThrow x = one();
        Edges.people(x, 5);
        Edges.refused(x, -5, () -> x.manOf(1, 0), () -> x.manOf(-1, 0), () -> x.manOf(8, 1), () -> x.manOf(LEAST, 0),
            () -> x.manOf(MOST, 0));
    }

    /** Promise 16, "-5: .. another what". */
    static void manOfRefusesAnotherWhat() {
        NoFartherThanAThrow x = one();
        Edges.people(x, 5, 6);
        Edges.refused(x, -5, () -> x.manOf(0, 2), () -> x.manOf(0, -1), () -> x.manOf(1, -1), () -> x.manOf(0, LEAST),
            () -> x.manOf(0, MOST));
    }

    /** Promise 17: what 0 to 3 of the last of four. */
    static void wantOfTheLast() {
        NoFartherThanAThrow x = one();
        Edges.is(x.thing(0, 1, 1, 33), 1);
        for (int i = 0; i < 4; i++) {
            Edges.is(x.want(i / 3, 30 + i, 10 * i), i);
        }
        int[] told = {1, 33, 30, 1};
        for (int what = 0; what <= 3; what++) {
            Edges.is(x.wantOf(3, what), told[what]);
        }
    }

    /** Promise 17, "3 1 if its THING is there": one step before it and one behind it it isn't. */
    static void wantOfAThingThatIsThere() {
        NoFartherThanAThrow x = one();
        Edges.is(x.want(0, 29, 1), 0);
        Edges.is(x.want(0, 30, 1), 1);
        Edges.is(x.want(0, 31, 1), 2);
        int[] there = {0, 1, 0};
        for (int want = 0; want < 3; want++) {
            Edges.is(x.wantOf(want, 3), there[want]);
        }
    }

    /** Promise 17, "-5: no such one": also for what 3. */
    static void wantOfRefusesNoWant() {
        NoFartherThanAThrow x = one();
        Edges.is(x.want(0, 40, 1), 0);
        Edges.refused(x, -5, () -> x.wantOf(1, 0), () -> x.wantOf(1, 3), () -> x.wantOf(-1, 0), () -> x.wantOf(-1, 3),
            () -> x.wantOf(4, 0), () -> x.wantOf(LEAST, 0), () -> x.wantOf(MOST, 3));
    }

    /** Promise 17, "-5: .. another what". */
    static void wantOfRefusesAnotherWhat() {
        NoFartherThanAThrow x = one();
        Edges.is(x.want(0, 40, 1), 0);
        Edges.is(x.want(0, 41, 1), 1);
        Edges.refused(x, -5, () -> x.wantOf(0, 4), () -> x.wantOf(0, -1), () -> x.wantOf(1, -1),
            () -> x.wantOf(0, LEAST), () -> x.wantOf(0, MOST));
    }
}
