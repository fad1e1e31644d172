/** Promises 20 to 23, and the Terms of HOW FAR a THING is CARRIED: the boundary cases, sentence by sentence. */
public final class EdgesOfCarryingTest {
    private static final int LEAST = Edges.LEAST;
    private static final int MOST = Edges.MOST;
    private static final int NONE = -1;

    public static void main(String[] args) throws IllegalAccessException {
        Edges.run(EdgesOfCarryingTest.class);
    }

    /** FAR of one of this STRENGTH with a new THING. */
    private static int far(int kind, int weight, int extra, int wind, int strength) {
        NoFartherThanAThrow x = new NoFartherThanAThrow();
        Edges.is(x.thing(kind, weight, extra, 0), 0);
        Edges.is(x.man(strength), 0);
        Edges.is(x.ask(1, wind), 0);
        return x.far(0, 0);
    }

    /** A THING of WEIGHT 10 (FAR is what STRENGTH is left) at 30, one of STRENGTH 10, one of 12. */
    private static NoFartherThanAThrow one() {
        NoFartherThanAThrow x = new NoFartherThanAThrow();
        Edges.is(x.thing(0, 10, 1, 30), 0);
        Edges.people(x, 10, 12);
        return x;
    }

    // ---- Terms, CAN and FAR ----

    /** Terms, CAN: "times 10 by WEIGHT, cut": just a step, just none. */
    static void canIsCut() {
        Edges.is(far(0, 10, 1, 0, 1), 1);
        Edges.is(far(0, 11, 1, 0, 1), 0);
        Edges.is(far(0, 99, 1, 0, 9), 0);
        Edges.is(far(0, 90, 1, 0, 9), 1);
        Edges.is(far(0, 91, 1, 0, 9), 0);
        Edges.is(far(0, 19, 1, 0, 37), 19);
        Edges.is(far(0, 99, 1, 0, 99), 10);
    }

    /** Terms, CAN: "STRENGTH less TIRED": just as much is none. */
    static void canIsStrengthLessTired() {
        NoFartherThanAThrow x = new NoFartherThanAThrow();
        Edges.is(x.thing(0, 10, 1, 0), 0);
        Edges.people(x, 3);
        Edges.is(x.far(0, 0), 3);
        Edges.is(x.toss(0, 0, 1) >= 0 ? 1 : 0, 1);
        Edges.is(x.manOf(0, 1), 2);
        Edges.is(x.far(0, 0), 1);
        Edges.is(x.carry(0, 0, 1), 2);
        Edges.is(x.manOf(0, 1), 4);
        Edges.is(x.far(0, 0), 0);
        NoFartherThanAThrow y = new NoFartherThanAThrow();
        Edges.is(y.thing(0, 10, 1, 0), 0);
        Edges.people(y, 2);
        Edges.is(y.carry(0, 0, 1), 1);
        Edges.is(y.manOf(0, 1), 2);
        Edges.is(y.far(0, 0), 0);
    }

    /** Terms, CAN: "STRENGTH less TIRED (0 at least)": WIND and EXTRA are not lessened by what is below 0. */
    static void canIs0AtLeast() {
        NoFartherThanAThrow x = new NoFartherThanAThrow();
        Edges.is(x.thing(0, 10, 1, 0), 0);
        Edges.is(x.thing(2, 1, 1, 0), 1);
        Edges.is(x.thing(6, 1, 4, 0), 2);
        Edges.is(x.thing(3, 1, 1, 0), 3);
        Edges.is(x.ask(1, 7), 0);
        Edges.people(x, 1);
        Edges.is(x.carry(0, 0, 1), 1);
        Edges.is(x.manOf(0, 1), 2);
        Edges.is(x.far(0, 0), 0);
        Edges.is(x.far(0, 1), 7);
        Edges.is(x.far(0, 2), 4);
        Edges.is(x.far(0, 3), 3);
    }

    /** Terms, FAR: "THING: CAN, 40 at most". */
    static void aThing40AtMost() {
        Edges.is(far(0, 10, 1, 0, 39), 39);
        Edges.is(far(0, 10, 1, 0, 40), 40);
        Edges.is(far(0, 10, 1, 0, 41), 40);
        Edges.is(far(0, 1, 9, 9, 99), 40);
    }

    /** Terms, FAR: "HEAVY: half of CAN .. (cut)". */
    static void halfOfCanIsCut() {
        Edges.is(far(1, 10, 1, 0, 1), 0);
        Edges.is(far(1, 10, 1, 0, 2), 1);
        Edges.is(far(1, 10, 1, 0, 3), 1);
        // CAN is cut ahead of the half: 39 by 10 is 3, half of it 1
        Edges.is(far(1, 10, 1, 0, 39), 19);
        Edges.is(far(1, 99, 1, 0, 99), 5);
    }

    /** Terms, FAR: "HEAVY: half of CAN, 40 at most": the half is 40 at most, not CAN. */
    static void aHeavyOne40AtMost() {
        Edges.is(far(1, 10, 1, 0, 79), 39);
        Edges.is(far(1, 10, 1, 0, 80), 40);
        Edges.is(far(1, 10, 1, 0, 81), 40);
        Edges.is(far(1, 10, 1, 0, 82), 40);
        Edges.is(far(1, 1, 9, 9, 99), 40);
    }

    /** Terms, FAR: PARTED: "WEIGHT by EXTRA, rounded up": where it can be parted evenly and where it can't. */
    static void aPartedOneIsRoundedUp() {
        Edges.is(far(5, 10, 5, 0, 3), 7);
        Edges.is(far(5, 11, 5, 0, 3), 5);
        Edges.is(far(5, 14, 5, 0, 3), 5);
        Edges.is(far(5, 15, 5, 0, 3), 5);
        Edges.is(far(5, 16, 5, 0, 3), 3);
        Edges.is(far(5, 1, 9, 0, 3), 15);
        Edges.is(far(5, 99, 9, 0, 11), 5);
    }

    /** Terms, FAR: PARTED, EXTRA 1: as HEAVY; "40 at most" too. */
    static void aPartedOneAsHeavy() {
        Edges.is(far(5, 10, 1, 0, 39), 19);
        Edges.is(far(5, 20, 2, 0, 80), 40);
        Edges.is(far(5, 20, 2, 9, 82), 40);
        Edges.is(far(5, 1, 9, 0, 99), 40);
    }

    /** Terms, FAR: "ROUND: as HEAVY, and EXTRA more": beyond the 40, and where HEAVY is 0. */
    static void aRoundOneGoesExtraMore() {
        Edges.is(far(6, 1, 9, 0, 99), 49);
        Edges.is(far(6, 10, 1, 0, 80), 41);
        Edges.is(far(6, 99, 1, 0, 1), 1);
        Edges.is(far(6, 99, 9, 9, 1), 9);
    }

    /** Terms, FAR: "LIGHT: as THING, and WIND more": beyond the 40, and where THING is 0. */
    static void aLightOneGoesWindMore() {
        Edges.is(far(2, 10, 9, 0, 40), 40);
        Edges.is(far(2, 10, 9, 9, 40), 49);
        Edges.is(far(2, 10, 9, 9, 41), 49);
        Edges.is(far(2, 99, 9, 9, 1), 9);
        Edges.is(far(2, 99, 9, 0, 1), 0);
    }

    /** Terms, FAR: "FEATHER: half of what a LIGHT one is (cut)". */
    static void aFeatherGoesHalfAsFar() {
        Edges.is(far(3, 10, 9, 9, 41), 24);
        Edges.is(far(3, 10, 9, 0, 41), 20);
        Edges.is(far(3, 99, 9, 1, 1), 0);
        Edges.is(far(3, 99, 9, 2, 1), 1);
        Edges.is(far(3, 10, 9, 0, 1), 0);
        // the half is of both together: of 1 and 1, of 5 and 3
        Edges.is(far(3, 10, 9, 1, 1), 1);
        Edges.is(far(3, 10, 9, 3, 5), 4);
    }

    /** Terms, FAR: "GLASS: as THING, 5 at most". */
    static void glass5AtMost() {
        Edges.is(far(4, 10, 9, 9, 4), 4);
        Edges.is(far(4, 10, 9, 9, 5), 5);
        Edges.is(far(4, 10, 9, 9, 6), 5);
        Edges.is(far(4, 99, 9, 9, 1), 0);
        Edges.is(far(4, 1, 9, 9, 99), 5);
    }

    // ---- Promise 20: far ----

    /** Promise 20, "-1": no such one, no such THING; of the last of each there is an answer. */
    static void farRefusesNobody() {
        NoFartherThanAThrow x = one();
        Edges.is(x.thing(0, 5, 1, 30), 1);
        Edges.is(x.far(1, 1), 24);
        Edges.refused(x, -1, () -> x.far(2, 0), () -> x.far(-1, 0), () -> x.far(0, 2), () -> x.far(0, -1),
            () -> x.far(LEAST, 0), () -> x.far(MOST, 0), () -> x.far(0, LEAST), () -> x.far(0, MOST),
            () -> x.far(8, 8));
    }

    /** Promise 20: FAR 0 is an answer, no refusal. */
    static void farMayBe0() {
        NoFartherThanAThrow x = new NoFartherThanAThrow();
        Edges.is(x.thing(0, 99, 1, 0), 0);
        Edges.people(x, 1);
        Edges.is(x.far(0, 0), 0);
        Edges.notRefused(x);
    }

    // ---- Terms, CARRIED; promise 21: wrong ----

    /** Terms, "CARRIED d steps by one (either way ..): d is no more than FAR". */
    static void noMoreThanFar() {
        NoFartherThanAThrow x = one();
        Edges.is(x.wrong(0, 0, 10), 0);
        Edges.is(x.wrong(0, 0, -10), 0);
        Edges.is(x.wrong(0, 0, 11), 4);
        Edges.is(x.wrong(0, 0, -11), 4);
    }

    /** Terms, "CARRIED d steps (.. 1 at least)". */
    static void oneStepAtLeast() {
        NoFartherThanAThrow x = one();
        Edges.is(x.wrong(0, 0, 1), 0);
        Edges.is(x.wrong(0, 0, -1), 0);
        Edges.is(x.thing(0, 99, 1, 30), 1);
        Edges.people(x, 1);
        Edges.is(x.far(2, 1), 0);
        Edges.is(x.wrong(2, 1, 1), 4);
        Edges.is(x.wrong(2, 1, -1), 4);
    }

    /** Promise 21, "(.. 0: 4)": no step, with FAR and without; a CARRY of none is refused. */
    static void noStepIs4() {
        NoFartherThanAThrow x = one();
        Edges.is(x.wrong(0, 0, 0), 4);
        Edges.is(x.thing(0, 99, 1, 0), 1);
        Edges.people(x, 1);
        Edges.is(x.wrong(2, 1, 0), 4);
        Edges.refused(x, -6, () -> x.carry(0, 0, 0), () -> x.carry(2, 1, 0));
    }

    /** Terms, "2 the end is off THE WAY": step 0 and LONG are on it. */
    static void offTheWay() {
        NoFartherThanAThrow x = new NoFartherThanAThrow();
        Edges.is(x.thing(0, 10, 1, 10), 0);
        Edges.is(x.thing(0, 10, 1, 50), 1);
        Edges.people(x, 40);
        Edges.is(x.wrong(0, 0, -10), 0);
        Edges.is(x.wrong(0, 0, -11), 2);
        Edges.is(x.wrong(0, 1, 10), 0);
        Edges.is(x.wrong(0, 1, 11), 2);
        Edges.is(x.ask(0, 99), 60);
        Edges.is(x.wrong(0, 1, 11), 0);
    }

    /** Terms, "3 it is in THE RIVER": FROM and TO aren't; beyond it a THING may be CARRIED. */
    static void inTheRiver() {
        NoFartherThanAThrow x = new NoFartherThanAThrow();
        Edges.is(x.river(20, 25), 1);
        Edges.is(x.thing(0, 10, 1, 15), 0);
        Edges.is(x.thing(0, 10, 1, 30), 1);
        Edges.people(x, 40);
        int[] ahead = {4, 5, 6, 7, 8, 9, 10, 11};
        int[] due = {0, 0, 3, 3, 3, 3, 0, 0};
        for (int i = 0; i < 8; i++) {
            Edges.is(x.wrong(0, 0, ahead[i]), due[i]);
        }
        int[] back = {-4, -5, -6, -9, -10, -11};
        int[] dueBack = {0, 0, 3, 3, 0, 0};
        for (int i = 0; i < 6; i++) {
            Edges.is(x.wrong(0, 1, back[i]), dueBack[i]);
        }
    }

    /** Terms, "1 the one had it last": another may have it, then the first again; after a NIGHT anyone. */
    static void hadItLast() {
        NoFartherThanAThrow x = one();
        Edges.is(x.carry(0, 0, 1), 31);
        Edges.is(x.wrong(0, 0, 1), 1);
        Edges.is(x.wrong(0, 0, -1), 1);
        Edges.is(x.wrong(1, 0, 1), 0);
        Edges.is(x.carry(1, 0, 1), 32);
        Edges.is(x.wrong(0, 0, 1), 0);
        Edges.is(x.wrong(1, 0, 1), 1);
        Edges.is(x.night(), 2);
        Edges.is(x.wrong(1, 0, 1), 0);
    }

    /** Terms, "1 the one had it last": that THING, not another. */
    static void hadAnotherLast() {
        NoFartherThanAThrow x = one();
        Edges.is(x.thing(0, 10, 1, 30), 1);
        Edges.is(x.carry(0, 0, 1), 31);
        Edges.is(x.wrong(0, 1, 1), 0);
    }

    /** Terms, "5 it is BROKEN". */
    static void broken() {
        NoFartherThanAThrow x = new NoFartherThanAThrow();
        Edges.is(x.thing(4, 10, 1, 30), 0);
        Edges.people(x, 20);
        Edges.is(x.wrong(0, 0, 1), 0);
        Edges.breakGlass(x, 0, 0);
        Edges.is(x.wrong(0, 0, 1), 5);
        Edges.is(x.wrong(0, 0, -5), 5);
        Edges.refused(x, -6, () -> x.carry(0, 0, 1));
    }

    /** Terms, "by the first that holds": 1 ahead of 2, 3 and 4. */
    static void hadItLastAheadOfAll() {
        NoFartherThanAThrow x = one();
        Edges.is(x.river(40, 45), 1);
        Edges.is(x.carry(0, 0, 1), 31);
        Edges.is(x.wrong(0, 0, 30), 1);
        Edges.is(x.wrong(0, 0, -32), 1);
        Edges.is(x.wrong(0, 0, 10), 1);
        Edges.is(x.wrong(0, 0, 20), 1);
        Edges.is(x.wrong(0, 0, MOST), 1);
        Edges.is(x.wrong(0, 0, LEAST), 1);
    }

    /** Terms, "by the first that holds": 2 ahead of 4 and 5. */
    static void offTheWayAheadOfTooFarAndBroken() {
        NoFartherThanAThrow x = new NoFartherThanAThrow();
        Edges.is(x.thing(4, 10, 1, 56), 0);
        Edges.people(x, 20);
        Edges.is(x.wrong(0, 0, 6), 2);
        Edges.is(x.wrong(0, 0, -57), 2);
        Edges.breakGlass(x, 0, 0);
        Edges.is(x.wrong(0, 0, 1), 2);
        Edges.is(x.wrong(0, 0, 30), 2);
    }

    /** Terms, "by the first that holds": 3 ahead of 4 and 5. */
    static void inTheRiverAheadOfTooFarAndBroken() {
        NoFartherThanAThrow x = new NoFartherThanAThrow();
        Edges.is(x.thing(4, 10, 1, 26), 0);
        Edges.people(x, 20);
        Edges.is(x.river(31, 45), 1);
        Edges.is(x.wrong(0, 0, 6), 3);
        Edges.breakGlass(x, 0, 0);
        Edges.is(x.wrong(0, 0, 2), 3);
        Edges.is(x.wrong(0, 0, 14), 3);
    }

    /** Terms, "by the first that holds": 4 ahead of 5. */
    static void tooFarAheadOfBroken() {
        NoFartherThanAThrow x = new NoFartherThanAThrow();
        Edges.is(x.thing(4, 10, 1, 26), 0);
        Edges.people(x, 20);
        Edges.breakGlass(x, 0, 0);
        Edges.is(x.wrong(0, 0, 6), 4);
        Edges.is(x.wrong(0, 0, -6), 4);
        Edges.is(x.wrong(0, 0, 0), 4);
        Edges.is(x.wrong(0, 0, 5), 5);
    }

    /** Promise 21: d as far as ints go is off THE WAY, either way. */
    static void stepsAsFarAsIntsGo() {
        NoFartherThanAThrow x = one();
        Edges.is(x.wrong(0, 0, MOST), 2);
        Edges.is(x.wrong(0, 0, LEAST), 2);
        Edges.is(x.wrong(0, 0, LEAST + 1), 2);
        Edges.refused(x, -6, () -> x.carry(0, 0, MOST), () -> x.carry(0, 0, LEAST));
    }

    /** Promise 21, "-1": no such one, no such THING, whatever d is. */
    static void wrongRefusesNobody() {
        NoFartherThanAThrow x = one();
        Edges.refused(x, -1, () -> x.wrong(2, 0, 1), () -> x.wrong(-1, 0, 1), () -> x.wrong(0, 1, 1),
            () -> x.wrong(0, -1, 1), () -> x.wrong(2, 0, 0), () -> x.wrong(LEAST, 0, 1), () -> x.wrong(MOST, 0, 1),
            () -> x.wrong(0, LEAST, 1), () -> x.wrong(0, MOST, 1));
    }

    /** Promise 21: what is wrong is told, not refused, and nothing moves by it. */
    static void wrongMovesNothing() {
        NoFartherThanAThrow x = one();
        Edges.is(x.wrong(0, 0, 5), 0);
        Edges.is(x.wrong(0, 0, 50), 2);
        Edges.is(x.thingOf(0, 3), 30);
        Edges.is(x.thingOf(0, 4), NONE);
        Edges.is(x.manOf(0, 1), 0);
        Edges.is(x.status(9), 0);
        Edges.notRefused(x);
    }

    // ---- Terms, A CARRY in truth; promise 22: carry ----

    /** Promise 22, "A CARRY in truth: the STEP then": 0 is one, and LONG, FROM, TO. */
    static void carryAnswersTheStep() {
        NoFartherThanAThrow x = new NoFartherThanAThrow();
        Edges.is(x.thing(0, 10, 1, 10), 0);
        Edges.is(x.river(20, 25), 1);
        Edges.people(x, 99, 99);
        Edges.is(x.carry(0, 0, -10), 0);
        Edges.is(x.carry(1, 0, 20), 20);
        Edges.is(x.carry(0, 0, 5), 25);
        Edges.is(x.carry(1, 0, 35), 60);
        Edges.is(x.thingOf(0, 3), 60);
        Edges.is(x.status(9), 4);
        Edges.notRefused(x);
    }

    /** Terms, "they are WEIGHT by 10, cut, and 1 more TIRED". */
    static void tiredByTheWeight() {
        int[] weights = {1, 9, 10, 19, 20, 89, 90, 99};
        int[] tired = {1, 1, 2, 2, 3, 9, 10, 10};
        for (int i = 0; i < weights.length; i++) {
            NoFartherThanAThrow x = new NoFartherThanAThrow();
            Edges.is(x.thing(0, weights[i], 1, 0), 0);
            Edges.people(x, 99, 99);
            Edges.is(x.carry(0, 0, 1), 1);
            Edges.is(x.manOf(0, 1), tired[i]);
            Edges.is(x.manOf(1, 1), 0);
        }
    }

    /** Terms, "TIRED (99 at most)": 90 and 10 more; 99 and more. */
    static void tired99AtMost() {
        NoFartherThanAThrow x = new NoFartherThanAThrow();
        Edges.is(x.thing(6, 99, 9, 0), 0);
        Edges.is(x.thing(6, 80, 9, 0), 1);
        Edges.people(x, 99);
        for (int i = 1; i <= 9; i++) {
            Edges.is(x.toss(0, 0, 1) >= 0 ? 1 : 0, 1);
            Edges.is(x.manOf(0, 1), 10 * i);
        }
        Edges.is(x.image(), 2);
        Edges.is(x.carry(0, 1, 1), 1);
        Edges.is(x.manOf(0, 1), 99);
        Edges.is(x.restore(), 2);
        Edges.is(x.carry(0, 0, 1), 10);
        Edges.is(x.manOf(0, 1), 99);
        Edges.is(x.toss(0, 0, 1) >= 0 ? 1 : 0, 1);
        Edges.is(x.manOf(0, 1), 99);
    }

    /** Terms, "LAST is the one": number 0 too. */
    static void lastIsTheOne() {
        NoFartherThanAThrow x = one();
        Edges.is(x.thing(0, 10, 1, 30), 1);
        Edges.is(x.carry(0, 0, 1), 31);
        Edges.is(x.thingOf(0, 4), 0);
        Edges.is(x.thingOf(1, 4), NONE);
        Edges.is(x.carry(1, 0, 1), 32);
        Edges.is(x.thingOf(0, 4), 1);
    }

    /** Promise 22, "-1": no such one, no such THING. */
    static void carryRefusesNobody() {
        NoFartherThanAThrow x = one();
        Edges.refused(x, -1, () -> x.carry(2, 0, 1), () -> x.carry(-1, 0, 1), () -> x.carry(0, 1, 1),
            () -> x.carry(0, -1, 1), () -> x.carry(LEAST, 0, 1), () -> x.carry(MOST, 0, 1), () -> x.carry(0, LEAST, 1),
            () -> x.carry(0, MOST, 1));
    }

    /** Promise 22, "-6 it CAN'T be": for each of the five; FAR, LONG, FROM and TO can. */
    static void carryRefusesWhatCantBe() {
        NoFartherThanAThrow x = one();
        Edges.is(x.river(36, 40), 1);
        Edges.refused(x, -6, () -> x.carry(0, 0, 11), () -> x.carry(0, 0, -11), () -> x.carry(0, 0, 31),
            () -> x.carry(0, 0, -31), () -> x.carry(0, 0, 7), () -> x.carry(0, 0, 9), () -> x.carry(0, 0, 0));
        Edges.is(x.carry(0, 0, 10), 40);
        Edges.refused(x, -6, () -> x.carry(0, 0, 1));
    }

    /** REFUSALS, "the first that fits, in this order", of promise 22. */
    static void carryRefusesInOrder() {
        NoFartherThanAThrow x = one();
        Edges.refused(x, -1, () -> x.carry(2, 0, 0), () -> x.carry(0, 1, 99));
    }

    // ---- Promise 23: judge ----

    /** Promise 23, "n moves (0 to 40)": none, of an empty ROW too. */
    static void judgesNoMoves() {
        NoFartherThanAThrow x = one();
        Edges.is(x.row(0, 2, 0), 1);
        Edges.is(x.judge(0, 0, 0), NONE);
        Due.numbers(x, 0, 2, 9, 9);
        Edges.is(x.judge(0, 0, 0), NONE);
        Edges.notRefused(x);
    }

    /** Promise 23, "n moves (0 to 40)": forty, the last of which counts. */
    static void judges40Moves() {
        NoFartherThanAThrow x = new NoFartherThanAThrow();
        Edges.is(x.thing(2, 1, 1, 30), 0);
        Edges.people(x, 99, 99);
        long[] moves = new long[80];
        for (int i = 0; i < 40; i++) {
            moves[2 * i] = i % 2;
            moves[2 * i + 1] = i % 2 == 0 ? 1 : -1;
        }
        Due.numbers(x, 0, 2, moves);
        Edges.is(x.judge(0, 0, 40), NONE);
        Edges.is(x.set(0, 79, 31), 1);
        Edges.is(x.judge(0, 0, 40), 39);
        Edges.is(x.judge(0, 0, 39), NONE);
    }

    /** Promise 23, "-6 n above 40", when the ROW has elements enough. */
    static void judgeRefusesMoreThan40() {
        NoFartherThanAThrow x = one();
        Edges.is(x.row(0, 2, 160), 1);
        Edges.is(x.judge(0, 0, 40), 0);
        Edges.refused(x, -6, () -> x.judge(0, 0, 41), () -> x.judge(0, 0, 80));
    }

    /** Promise 23, "-5 fewer elements than twice n": just as many are enough, one fewer isn't. */
    static void judgeRefusesTooFewElements() {
        NoFartherThanAThrow x = one();
        Due.numbers(x, 0, 2, 0, 1, 1, 1);
        Edges.is(x.judge(0, 0, 2), NONE);
        Edges.refused(x, -5, () -> x.judge(0, 0, 3));
        Due.numbers(x, 0, 2, 0, 1, 1);
        Edges.is(x.judge(0, 0, 1), NONE);
        Edges.refused(x, -5, () -> x.judge(0, 0, 2));
        Edges.is(x.row(0, 2, 0), 1);
        Edges.refused(x, -5, () -> x.judge(0, 0, 1));
    }

    /** Promise 23, "-5": also where twice n is more than an int. */
    static void judgeRefusesTwiceNBeyondInts() {
        NoFartherThanAThrow x = one();
        Due.numbers(x, 0, 2, 0, 1, 1, 1);
        Edges.refused(x, -5, () -> x.judge(0, 0, 1 << 30), () -> x.judge(0, 0, MOST), () -> x.judge(0, 0, (1 << 30) + 1));
    }

    /** Promise 23, "-4 n". */
    static void judgeRefusesASizeBelow0() {
        NoFartherThanAThrow x = one();
        Edges.is(x.row(0, 2, 4), 1);
        Edges.refused(x, -4, () -> x.judge(0, 0, -1), () -> x.judge(0, 0, LEAST));
    }

    /** Promise 23, "-1": no such THING, no such SHELF. */
    static void judgeRefusesNobody() {
        NoFartherThanAThrow x = one();
        Edges.is(x.row(0, 2, 4), 1);
        Edges.refused(x, -1, () -> x.judge(1, 0, 1), () -> x.judge(-1, 0, 1), () -> x.judge(0, -1, 1),
            () -> x.judge(0, 8, 1), () -> x.judge(LEAST, 0, 1), () -> x.judge(MOST, 0, 1), () -> x.judge(0, LEAST, 1),
            () -> x.judge(0, MOST, 1));
    }

    /** Promise 23, "-2" and "-3". */
    static void judgeRefusesNoRow() {
        NoFartherThanAThrow x = one();
        Edges.is(x.show(0, 0), 1);
        Edges.refused(x, -2, () -> x.judge(0, 0, 0));
        Edges.refused(x, -3, () -> x.judge(0, 1, 0));
    }

    /** REFUSALS, "the first that fits, in this order", of promise 23. */
    static void judgeRefusesInOrder() {
        NoFartherThanAThrow x = one();
        Edges.is(x.show(0, 0), 1);
        Edges.is(x.row(1, 2, 81), 1);
        Edges.refused(x, -1, () -> x.judge(1, 0, 0), () -> x.judge(1, 2, 0), () -> x.judge(0, 8, -1),
            () -> x.judge(1, 1, -1), () -> x.judge(1, 1, 41));
        Edges.refused(x, -2, () -> x.judge(0, 0, -1), () -> x.judge(0, 0, 41));
        Edges.refused(x, -3, () -> x.judge(0, 2, -1), () -> x.judge(0, 2, 41));
        Edges.refused(x, -5, () -> x.judge(0, 1, 41));
    }

    private static void judged(NoFartherThanAThrow x, int due, long... moves) {
        Due.numbers(x, 0, 3, moves);
        Edges.is(x.judge(0, 0, moves.length / 2), due);
    }

    /** Promise 23, "the first that CAN'T be; NONE": the first of all, the last of all, the first of two. */
    static void judgesTheFirstThatCantBe() {
        NoFartherThanAThrow x = one();
        judged(x, NONE, 0, 10, 1, -12, 0, 1);
        judged(x, 0, 0, 11, 1, 1, 0, 1);
        judged(x, 2, 0, 1, 1, 1, 0, 31);
        judged(x, 1, 0, 1, 1, 0, 0, 31);
    }

    /** Terms, a told ROW of moves: "(below 0: back)". */
    static void judgesMovesBack() {
        NoFartherThanAThrow x = one();
        judged(x, NONE, 0, -10, 1, -12);
        judged(x, 0, 0, -11);
        judged(x, 1, 0, -10, 1, -13);
    }

    /** Terms, a told ROW of moves: by one who isn't there it CAN'T be. */
    static void judgesMovesByNobody() {
        NoFartherThanAThrow x = one();
        judged(x, 0, 2, 1);
        judged(x, 0, -1, 1);
        judged(x, 1, 0, 1, 8, 1);
        judged(x, 1, 0, 1, MOST, 1);
        judged(x, 1, 0, 1, LEAST, 1);
        Edges.notRefused(x);
    }

    /** Terms, a told ROW of moves: nobody is no one either who could roll it by its EXTRA alone, or had it last. */
    static void judgesMovesByNobodyOfWhatRolls() {
        NoFartherThanAThrow x = new NoFartherThanAThrow();
        Edges.is(x.thing(6, 10, 9, 30), 0);
        Edges.people(x, 10);
        judged(x, 0, 1, 1);
        judged(x, 0, 7, 1);
        judged(x, 0, -1, 1);
        judged(x, 1, 0, 1, -1, 1);
        judged(x, 1, 0, 1, 1, 1);
    }

    /** Terms, a told ROW of moves: where the move ahead left it, by who didn't have it then, as TIRED as then. */
    static void judgesAsThingsStandByThen() {
        NoFartherThanAThrow x = one();
        judged(x, 1, 0, 1, 0, 1);
        judged(x, NONE, 0, 10, 1, 12);
        judged(x, NONE, 0, 10, 1, 1, 0, 8);
        judged(x, 2, 0, 10, 1, 1, 0, 9);
        Edges.is(x.river(45, 50), 1);
        judged(x, NONE, 0, 10, 1, 5);
        judged(x, 1, 0, 10, 1, 6);
        judged(x, NONE, 0, 10, 1, 10);
        Edges.is(x.ask(0, 51), 60);
        judged(x, NONE, 0, 10, 1, 11);
        judged(x, 1, 0, 10, 1, 12);
    }

    /** Terms, a told ROW of moves begins as things stand: who had it last in truth, how TIRED they are. */
    static void judgesFromHowThingsStand() {
        NoFartherThanAThrow x = one();
        Edges.is(x.carry(0, 0, 1), 31);
        judged(x, 0, 0, 1);
        judged(x, NONE, 1, 1, 0, 8);
        judged(x, 1, 1, 1, 0, 9);
    }

    /** Terms, a told ROW of moves: a BROKEN THING CAN'T be moved. */
    static void judgesABrokenThing() {
        NoFartherThanAThrow x = new NoFartherThanAThrow();
        Edges.is(x.thing(4, 10, 1, 30), 0);
        Edges.people(x, 20);
        judged(x, NONE, 0, 1);
        Edges.breakGlass(x, 0, 0);
        judged(x, 0, 0, 1);
    }

    /** Promise 23: what is told is not so in truth. */
    static void judgeMovesNothing() {
        NoFartherThanAThrow x = one();
        judged(x, NONE, 0, 10, 1, 12);
        Edges.is(x.thingOf(0, 3), 30);
        Edges.is(x.thingOf(0, 4), NONE);
        Edges.is(x.manOf(0, 1), 0);
        Edges.is(x.manOf(1, 1), 0);
        Edges.is(x.status(9), 0);
    }

    /** Terms, "(As ints: of longs the lowest 32 bits)", of promise 23. */
    static void judgesTheLowest32Bits() {
        NoFartherThanAThrow x = one();
        judged(x, NONE, (1L << 32), (1L << 32) + 10, (5L << 32) + 1, (1L << 32) - 12);
        judged(x, 1, (1L << 32), (1L << 32) + 10, (5L << 32) + 1, (1L << 32) - 13);
        Due.numbers(x, 0, 0, 0, 246, 1, 256 - 12);
        Edges.is(x.judge(0, 0, 2), NONE);
    }
}
