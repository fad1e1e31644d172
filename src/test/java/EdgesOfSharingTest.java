/** Promises 29 and 30, and the Terms of SHARED: the boundary cases, sentence by sentence. */
public final class EdgesOfSharingTest {
    private static final int NONE = -1;

    public static void main(String[] args) throws IllegalAccessException {
        Edges.run(EdgesOfSharingTest.class);
    }

    /** A THING of WEIGHT 10 (FAR is what STRENGTH is left) at 10, and PEOPLE of these STRENGTHS. */
    private static NoFartherThanAThrow row(int... strengths) {
        NoFartherThanAThrow x = new NoFartherThanAThrow();
        Edges.is(x.thing(0, 10, 1, 10), 0);
        Edges.people(x, strengths);
        return x;
    }

    private static void shared(NoFartherThanAThrow x, int worth, int... given) {
        Edges.is(x.shared(), worth);
        for (int man = 0; man < given.length; man++) {
            Edges.is(x.given(man), given[man]);
        }
        Edges.is(x.status(1), given.length);
    }

    /** Promise 29: where there are no WANTS, no PEOPLE, neither. */
    static void nothingToShare() {
        NoFartherThanAThrow x = new NoFartherThanAThrow();
        shared(x, 0);
        Edges.is(x.thing(0, 10, 1, 10), 0);
        shared(x, 0);
        Edges.is(x.want(0, 20, 9), 0);
        shared(x, 0);
        NoFartherThanAThrow y = row(5, 5);
        shared(y, 0, NONE, NONE);
        Edges.notRefused(x);
        Edges.notRefused(y);
    }

    /** Terms, SHARED "a WANT being met if its set DOES": just as far, one step too far. */
    static void metJustAsFar() {
        NoFartherThanAThrow x = row(5, 3);
        Edges.is(x.want(0, 19, 9), 0);
        shared(x, 0, NONE, NONE);
        Edges.is(x.want(0, 18, 7), 1);
        shared(x, 7, 1, 1);
    }

    /** Terms, SHARED: all eight for one WANT. */
    static void allForOne() {
        NoFartherThanAThrow x = row(1, 1, 1, 1, 1, 1, 1, 1);
        Edges.is(x.want(0, 18, 99), 0);
        shared(x, 99, 0, 0, 0, 0, 0, 0, 0, 0);
        Edges.is(x.want(0, 17, 99), 1);
        shared(x, 99, NONE, 1, 1, 1, 1, 1, 1, 1);
    }

    /** Terms, SHARED: all eight for the last WANT, of the least WORTH that there is above 0. */
    static void allForTheLast() {
        NoFartherThanAThrow x = row(1, 1, 1, 1, 1, 1, 1, 1);
        for (int want = 0; want < 3; want++) {
            Edges.is(x.want(0, 19, 99), want);
        }
        Edges.is(x.want(0, 18, 1), 3);
        shared(x, 1, 3, 3, 3, 3, 3, 3, 3, 3);
    }

    /** Terms, SHARED: four WANTS of WORTH 99, two of eight for each: 396, the most there is. */
    static void fourOfTheGreatestWorth() {
        NoFartherThanAThrow x = row(5, 5, 5, 5, 5, 5, 5, 5);
        for (int want = 0; want < 4; want++) {
            Edges.is(x.want(0, 20, 99), want);
        }
        shared(x, 396, 0, 0, 1, 1, 2, 2, 3, 3);
    }

    /** Terms, SHARED "(each one to one WANT, or none)": one of PEOPLE meets one of two WANTS. */
    static void eachToOneWant() {
        NoFartherThanAThrow x = row(5);
        Edges.is(x.want(0, 15, 8), 0);
        Edges.is(x.want(0, 15, 9), 1);
        shared(x, 9, 1);
        Edges.people(x, 5);
        shared(x, 17, 0, 1);
    }

    /** Terms, SHARED: "that of the greatest WORTH met together": two small ones before a great one, by one more. */
    static void theGreatestWorthTogether() {
        NoFartherThanAThrow x = row(5, 5);
        Edges.is(x.want(0, 20, 99), 0);
        Edges.is(x.want(0, 15, 50), 1);
        Edges.is(x.want(0, 15, 48), 2);
        shared(x, 99, 0, 0);
        Edges.is(x.want(0, 15, 50), 3);
        shared(x, 100, 1, 3);
    }

    /** Terms, SHARED: of WORTH 0 nothing is met that would be more than giving to none. */
    static void worth0IsNotMore() {
        NoFartherThanAThrow x = row(5, 5);
        Edges.is(x.want(0, 15, 0), 0);
        shared(x, 0, NONE, NONE);
        Edges.is(x.want(0, 15, 1), 1);
        shared(x, 1, NONE, 1);
    }

    /** Terms, SHARED: "which gives number 0 to none rather than to WANT 0": who isn't needed is given to none. */
    static void toNoneRatherThanToWant0() {
        NoFartherThanAThrow x = row(5, 5, 5);
        Edges.is(x.want(0, 15, 9), 0);
        shared(x, 9, NONE, NONE, 0);
        NoFartherThanAThrow y = row(9, 2, 2);
        Edges.is(y.want(0, 14, 9), 0);
        shared(y, 9, NONE, 0, 0);
        Edges.is(y.want(0, 15, 0), 1);
        shared(y, 9, NONE, 0, 0);
    }

    /** Terms, SHARED "and so on": to WANT 0 rather than to WANT 1, 1 than 2, 2 than 3. */
    static void toTheFirstWantRatherThanTheNext() {
        NoFartherThanAThrow x = row(5, 5);
        Edges.is(x.want(0, 15, 9), 0);
        Edges.is(x.want(0, 15, 9), 1);
        shared(x, 18, 0, 1);
        NoFartherThanAThrow y = row(5);
        Edges.is(y.want(0, 20, 9), 0);
        for (int want = 1; want < 4; want++) {
            Edges.is(y.want(0, 15, 9), want);
        }
        shared(y, 9, 1);
        NoFartherThanAThrow z = row(5);
        Edges.is(z.want(0, 20, 9), 0);
        Edges.is(z.want(0, 15, 8), 1);
        Edges.is(z.want(0, 15, 9), 2);
        Edges.is(z.want(0, 15, 9), 3);
        shared(z, 9, 2);
    }

    /** Terms, SHARED "and so on, by numbers": number 0's WANT counts before number 1's. */
    static void byNumbers() {
        // either may go either way, or both by one: number 0 is given to none or the least
        NoFartherThanAThrow x = row(5, 9);
        Edges.is(x.want(0, 15, 9), 0);
        shared(x, 9, NONE, 0);
        Edges.is(x.want(0, 19, 9), 1);
        shared(x, 18, 0, 1);
        NoFartherThanAThrow y = row(9, 5);
        Edges.is(y.want(0, 15, 9), 0);
        Edges.is(y.want(0, 19, 9), 1);
        shared(y, 18, 1, 0);
        Edges.people(y, 9);
        shared(y, 18, NONE, 0, 1);
        Edges.people(y, 1);
        shared(y, 18, NONE, 0, 1, NONE);
    }

    /** Terms, SHARED "(a THING that is there already is met by nobody ..)": its WORTH counts, nobody is given. */
    static void thereAlreadyIsMetByNobody() {
        NoFartherThanAThrow x = row(5);
        Edges.is(x.want(0, 10, 7), 0);
        shared(x, 7, NONE);
        Edges.is(x.want(0, 15, 2), 1);
        shared(x, 9, 1);
        NoFartherThanAThrow y = new NoFartherThanAThrow();
        Edges.is(y.thing(0, 10, 1, 10), 0);
        for (int want = 0; want < 4; want++) {
            Edges.is(y.want(0, 10, 99), want);
        }
        shared(y, 396);
    }

    /** Terms, SHARED "one that is behind its STEP can't be": by one step, by all of THE WAY. */
    static void behindItsStepCantBe() {
        NoFartherThanAThrow x = row(50);
        Edges.is(x.want(0, 9, 99), 0);
        Edges.is(x.want(0, 0, 99), 1);
        shared(x, 0, NONE);
        Edges.is(x.carry(0, 0, -1), 9);
        shared(x, 99, NONE);
        Edges.is(x.carry(0, 0, -1) == -6 ? 1 : 0, 1);
        Edges.is(x.night(), 1);
        Edges.is(x.carry(0, 0, -1), 8);
        shared(x, 99, 0);
    }

    /** Terms, SHARED "A THING of several WANTS: each by itself": from where it is now, for each of them. */
    static void eachWantByItself() {
        NoFartherThanAThrow x = row(5, 9);
        Edges.is(x.want(0, 15, 9), 0);
        Edges.is(x.want(0, 20, 8), 1);
        // 14 steps on from 15 by 9 alone would do; from 10 it doesn't
        shared(x, 9, NONE, 0);
        Edges.is(x.want(0, 19, 8), 2);
        shared(x, 17, 0, 2);
    }

    /** Terms, SHARED: THE RIVER counts, as in every ROW. */
    static void overTheRiver() {
        NoFartherThanAThrow x = row(4, 6);
        Edges.is(x.want(0, 20, 9), 0);
        shared(x, 9, 0, 0);
        Edges.is(x.river(14, 20), 1);
        shared(x, 9, 0, 0);
        Edges.is(x.river(13, 20), 1);
        shared(x, 0, NONE, NONE);
    }

    /** Terms, "(LAST, BROKEN don't matter in .. what follows of it.)", of SHARED; who is TIRED has less FAR. */
    static void lastAndBrokenDontMatterToSharing() {
        NoFartherThanAThrow x = new NoFartherThanAThrow();
        Edges.is(x.thing(4, 10, 1, 6), 0);
        Edges.is(x.thing(0, 10, 1, 9), 1);
        Edges.people(x, 8, 9);
        Edges.breakGlass(x, 0, 0);
        Edges.is(x.carry(1, 1, 1), 10);
        Edges.is(x.want(0, 15, 9), 0);
        Edges.is(x.want(1, 18, 9), 1);
        shared(x, 9, NONE, 0);
        Edges.is(x.want(1, 17, 9), 2);
        shared(x, 18, 0, 2);
    }

    /** Promise 30: given() without shared() ahead, and as things stand by then. */
    static void givenAsThingsStand() {
        NoFartherThanAThrow x = row(5);
        Edges.is(x.want(0, 15, 9), 0);
        Edges.is(x.given(0), 0);
        Edges.is(x.carry(0, 0, 1), 11);
        Edges.is(x.given(0), NONE);
    }

    /** Promise 30, "NONE: to none", which is no refusal. */
    static void givenToNone() {
        NoFartherThanAThrow x = row(5);
        Edges.is(x.given(0), NONE);
        Edges.notRefused(x);
    }

    /** Promise 30, "-11 (counted as -1)": no such one; of eight the last may be. */
    static void givenRefusesNobody() {
        NoFartherThanAThrow x = row();
        Edges.refused(x, -11, () -> x.given(0), () -> x.given(-1), () -> x.given(Edges.LEAST), () -> x.given(Edges.MOST));
        Edges.people(x, 1, 1, 1, 1, 1, 1, 1, 1);
        Edges.is(x.given(7), NONE);
        Edges.refused(x, -11, () -> x.given(8), () -> x.given(-1));
    }

    /** Promise 29 and 30: what is shared is not done, nothing changes by it. */
    static void sharingMovesNothing() {
        NoFartherThanAThrow x = row(5, 5);
        Edges.is(x.want(0, 20, 9), 0);
        shared(x, 9, 0, 0);
        Edges.is(x.thingOf(0, 3), 10);
        Edges.is(x.thingOf(0, 4), NONE);
        Edges.is(x.manOf(0, 1), 0);
        Edges.is(x.status(9), 0);
        Edges.notRefused(x);
    }
}
