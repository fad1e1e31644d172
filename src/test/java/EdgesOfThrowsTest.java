/** Promises 34 to 37, and the Terms of throws: the boundary cases, sentence by sentence. */
public final class EdgesOfThrowsTest {
    private static final int LEAST = Edges.LEAST;
    private static final int MOST = Edges.MOST;
    private static final int NONE = -1;

    public static void main(String[] args) throws IllegalAccessException {
        Edges.run(EdgesOfThrowsTest.class);
    }

    /** A THING of this KIND, of WEIGHT 10 (FAR of a plain one is what STRENGTH is left) at 10, one of the PEOPLE. */
    private static NoFartherThanAThrow one(int kind, int strength) {
        NoFartherThanAThrow x = new NoFartherThanAThrow();
        Edges.is(x.thing(kind, 10, 1, 10), 0);
        Edges.people(x, strength);
        return x;
    }

    // ---- promise 34: caught ----

    /** Terms, "CAUGHT by 10 less (d over 4, cut), tenths": 3 and 4, 39 and 40. */
    static void caughtByTenths() {
        NoFartherThanAThrow x = one(0, 40);
        int[] steps = {1, 3, 4, 7, 8, 35, 36, 39, 40};
        int[] tenths = {10, 10, 9, 9, 8, 2, 1, 1, 0};
        for (int i = 0; i < steps.length; i++) {
            Edges.is(x.caught(0, 0, steps[i]), tenths[i]);
        }
    }

    /** Promise 34, "(0 if it is farther than twice FAR)": just twice FAR is none such. */
    static void caughtFartherThanTwiceFar() {
        NoFartherThanAThrow x = one(0, 3);
        Edges.is(x.caught(0, 0, 6), 9);
        Edges.is(x.caught(0, 0, 7), 0);
        Edges.is(x.caught(0, 0, 40), 0);
        NoFartherThanAThrow y = one(4, 99);
        Edges.is(y.caught(0, 0, 10), 8);
        Edges.is(y.caught(0, 0, 11), 0);
        NoFartherThanAThrow z = one(1, 1);
        Edges.is(z.far(0, 0), 0);
        Edges.is(z.caught(0, 0, 1), 0);
    }

    /** Promise 34: off THE WAY, in THE RIVER, BROKEN, by who had it last: CAUGHT is told all the same. */
    static void caughtWhereverItGoes() {
        NoFartherThanAThrow x = one(4, 20);
        Edges.is(x.ask(0, 20), 60);
        Edges.is(x.river(16, 19), 1);
        Edges.is(x.caught(0, 0, 7), 9);
        Edges.is(x.caught(0, 0, 10), 8);
        Edges.breakGlass(x, 0, 0);
        Edges.is(x.caught(0, 0, 10), 8);
        NoFartherThanAThrow y = one(0, 20);
        Edges.is(y.carry(0, 0, 1), 11);
        Edges.is(y.caught(0, 0, 4), 9);
    }

    /** Terms, "over d steps (1 to 40 ..)"; promise 34, "-6 d". */
    static void caughtRefusesSteps() {
        NoFartherThanAThrow x = one(0, 40);
        Edges.is(x.caught(0, 0, 1), 10);
        Edges.is(x.caught(0, 0, 40), 0);
        Edges.refused(x, -6, () -> x.caught(0, 0, 0), () -> x.caught(0, 0, 41), () -> x.caught(0, 0, -1),
            () -> x.caught(0, 0, LEAST), () -> x.caught(0, 0, MOST));
    }

    /** Promise 34, "-1", ahead of -6. */
    static void caughtRefusesNobody() {
        NoFartherThanAThrow x = one(0, 40);
        Edges.refused(x, -1, () -> x.caught(1, 0, 1), () -> x.caught(-1, 0, 1), () -> x.caught(0, 1, 1),
            () -> x.caught(0, -1, 1), () -> x.caught(1, 0, 0), () -> x.caught(0, 1, 41), () -> x.caught(LEAST, 0, 1),
            () -> x.caught(MOST, 0, 1), () -> x.caught(0, LEAST, 1), () -> x.caught(0, MOST, 1));
    }

    // ---- promise 35: mean ----

    /** Terms, MEAN: "CAUGHT times WORTH .. by 10, cut": of WORTH 0, 1, 99; of CAUGHT 10, 9, 1, 0. */
    static void meanIsCut() {
        NoFartherThanAThrow x = one(0, 40);
        Edges.is(x.want(0, 11, 1), 0);
        Edges.is(x.want(0, 14, 1), 1);
        Edges.is(x.want(0, 49, 99), 2);
        Edges.is(x.want(0, 50, 99), 3);
        Edges.is(x.mean(0, 0, 1), 1);
        Edges.is(x.mean(0, 0, 4), 0);
        Edges.is(x.mean(0, 0, 39), 9);
        Edges.is(x.mean(0, 0, 40), 0);
    }

    /** Terms, MEAN: "of the THING's WANTS of that end together": summed up ahead of the cut; not those of others. */
    static void meanOfWantsTogether() {
        NoFartherThanAThrow x = one(0, 40);
        Edges.is(x.thing(0, 10, 1, 10), 1);
        Edges.is(x.want(0, 14, 5), 0);
        Edges.is(x.want(0, 14, 5), 1);
        Edges.is(x.want(1, 14, 90), 2);
        Edges.is(x.want(0, 15, 90), 3);
        // 9 tenths of 10; of each alone it would be 4
        Edges.is(x.mean(0, 0, 4), 9);
        NoFartherThanAThrow y = one(0, 40);
        for (int want = 0; want < 4; want++) {
            Edges.is(y.want(0, 14, 99), want);
        }
        Edges.is(y.mean(0, 0, 4), 356);
        Edges.is(y.mean(0, 0, 3), 0);
        Edges.is(y.mean(0, 0, 5), 0);
    }

    /** Promise 35, "(0 if it may not be thrown so)": farther than twice FAR. */
    static void meanFartherThanTwiceFar() {
        NoFartherThanAThrow x = one(0, 3);
        Edges.is(x.want(0, 16, 50), 0);
        Edges.is(x.want(0, 17, 50), 1);
        Edges.is(x.mean(0, 0, 6), 45);
        Edges.is(x.mean(0, 0, 7), 0);
    }

    /** Promise 35, "(0 if it may not be thrown so)": off THE WAY and in THE RIVER nothing is wanted either. */
    static void meanWhereItMayNotEnd() {
        NoFartherThanAThrow x = one(0, 40);
        Edges.is(x.want(0, 30, 50), 0);
        Edges.is(x.want(0, 20, 50), 1);
        Edges.is(x.want(0, 25, 50), 2);
        Edges.is(x.river(20, 25), 1);
        Edges.is(x.ask(0, 30), 60);
        Edges.is(x.mean(0, 0, 20), 25);
        Edges.is(x.mean(0, 0, 21), 0);
        Edges.is(x.mean(0, 0, 40), 0);
        Edges.is(x.mean(0, 0, 10), 40);
        Edges.is(x.mean(0, 0, 11), 0);
        Edges.is(x.mean(0, 0, 14), 0);
        Edges.is(x.mean(0, 0, 15), 35);
    }

    /** Promise 35, "-6 d". */
    static void meanRefusesSteps() {
        NoFartherThanAThrow x = one(0, 40);
        Edges.is(x.want(0, 10, 50), 0);
        Edges.is(x.want(0, 51, 50), 1);
        Edges.refused(x, -6, () -> x.mean(0, 0, 0), () -> x.mean(0, 0, 41), () -> x.mean(0, 0, -1),
            () -> x.mean(0, 0, LEAST), () -> x.mean(0, 0, MOST));
    }

    /** Promise 35, "-1", ahead of -6. */
    static void meanRefusesNobody() {
        NoFartherThanAThrow x = one(0, 40);
        Edges.refused(x, -1, () -> x.mean(1, 0, 1), () -> x.mean(-1, 0, 1), () -> x.mean(0, 1, 1),
            () -> x.mean(0, -1, 1), () -> x.mean(1, 0, 0), () -> x.mean(0, 1, 41), () -> x.mean(LEAST, 0, 1),
            () -> x.mean(MOST, 0, 1), () -> x.mean(0, LEAST, 1), () -> x.mean(0, MOST, 1));
    }

    // ---- promise 36: cast ----

    /** Terms, BEST THROW "of 1 to 40 steps": over 1 step; 40 steps are CAUGHT by no tenth. */
    static void castOver1To40() {
        NoFartherThanAThrow x = one(0, 40);
        Edges.is(x.want(0, 11, 1), 0);
        Edges.is(x.cast(0, 0), 1);
        NoFartherThanAThrow y = one(0, 40);
        Edges.is(y.want(0, 50, 99), 0);
        Edges.is(y.want(0, 51, 99), 1);
        Edges.is(y.want(0, 10, 99), 2);
        Edges.is(y.want(0, 9, 99), 3);
        Edges.is(y.cast(0, 0), NONE);
        NoFartherThanAThrow z = one(0, 40);
        Edges.is(z.want(0, 49, 10), 0);
        Edges.is(z.cast(0, 0), 39);
    }

    /** Terms, BEST THROW "if that is above 0": a MEAN of 1 is, one of 0 isn't; NONE is no refusal. */
    static void castAbove0() {
        NoFartherThanAThrow x = one(0, 40);
        Edges.is(x.cast(0, 0), NONE);
        Edges.is(x.want(0, 14, 1), 0);
        Edges.is(x.mean(0, 0, 4), 0);
        Edges.is(x.cast(0, 0), NONE);
        Edges.is(x.want(0, 14, 1), 1);
        Edges.is(x.mean(0, 0, 4), 1);
        Edges.is(x.cast(0, 0), 4);
        Edges.notRefused(x);
    }

    /** Terms, BEST THROW "the one of the greatest MEAN .. of several the least". */
    static void castOfSeveralTheLeast() {
        NoFartherThanAThrow x = one(0, 40);
        Edges.is(x.want(0, 14, 10), 0);
        Edges.is(x.want(0, 12, 9), 1);
        Edges.is(x.want(0, 11, 8), 2);
        // means 9, 9, 8
        Edges.is(x.cast(0, 0), 2);
        Edges.is(x.want(0, 18, 13), 3);
        // 8 tenths of 13 are 10
        Edges.is(x.cast(0, 0), 8);
    }

    /** Terms, BEST THROW: within twice FAR. */
    static void castWithinTwiceFar() {
        NoFartherThanAThrow x = one(0, 3);
        Edges.is(x.want(0, 17, 99), 0);
        Edges.is(x.cast(0, 0), NONE);
        Edges.is(x.want(0, 16, 5), 1);
        Edges.is(x.cast(0, 0), 6);
    }

    /** Promise 36, "-11 (counted as -1)". */
    static void castRefusesNobody() {
        NoFartherThanAThrow x = one(0, 40);
        Edges.is(x.cast(0, 0), NONE);
        Edges.refused(x, -11, () -> x.cast(1, 0), () -> x.cast(-1, 0), () -> x.cast(0, 1), () -> x.cast(0, -1),
            () -> x.cast(LEAST, 0), () -> x.cast(MOST, 0), () -> x.cast(0, LEAST), () -> x.cast(0, MOST));
    }

    // ---- promise 37: toss ----

    /** Terms, "a DRAW below 10: caught, if below CAUGHT": CAUGHT 9 with a DRAW of 8 and of 9. */
    static void caughtIfBelow() {
        NoFartherThanAThrow x = one(0, 40);
        Edges.is(x.seed(Edges.seedFor(8)), 1);
        Edges.is(x.toss(0, 0, 4), 1);
        NoFartherThanAThrow y = one(0, 40);
        Edges.is(y.seed(Edges.seedFor(9)), 1);
        Edges.is(y.toss(0, 0, 4), 0);
    }

    /** Terms, a throw: CAUGHT by ten tenths always is, by none never. */
    static void alwaysOrNeverCaught() {
        for (int draw = 0; draw < 10; draw++) {
            NoFartherThanAThrow x = one(0, 40);
            x.seed(Edges.seedFor(draw));
            Edges.is(x.toss(0, 0, 3), 1);
            NoFartherThanAThrow y = one(0, 40);
            y.seed(Edges.seedFor(draw));
            Edges.is(y.toss(0, 0, 40), 0);
            Edges.is(y.thingOf(0, 3), 50);
        }
    }

    /** Terms, a throw: "either way it is there then, LAST NONE". */
    static void thereEitherWay() {
        for (int draw = 8; draw <= 9; draw++) {
            NoFartherThanAThrow x = one(0, 40);
            Edges.is(x.carry(0, 0, 1), 11);
            x.seed(Edges.seedFor(draw));
            Edges.is(x.toss(0, 0, 4), 9 - draw);
            Edges.is(x.thingOf(0, 3), 15);
            Edges.is(x.thingOf(0, 4), NONE);
            Edges.is(x.wrong(0, 0, 1), 0);
        }
    }

    /** Terms, a throw: who had it last may throw it, as it is not CARRIED. */
    static void whoHadItLastMayThrow() {
        NoFartherThanAThrow x = one(0, 40);
        Edges.is(x.carry(0, 0, 1), 11);
        Edges.is(x.toss(0, 0, 3), 1);
        Edges.is(x.toss(0, 0, 3), 1);
    }

    /** Terms, a throw: "GLASS that isn't caught is BROKEN"; that which is caught isn't. */
    static void glassThatIsNotCaught() {
        NoFartherThanAThrow x = one(4, 40);
        x.seed(Edges.seedFor(8));
        Edges.is(x.toss(0, 0, 4), 1);
        Edges.is(x.thingOf(0, 5), 0);
        x.seed(Edges.seedFor(9));
        Edges.is(x.toss(0, 0, 4), 0);
        Edges.is(x.thingOf(0, 5), 1);
    }

    /** Terms, a throw: of other KINDS none is BROKEN. */
    static void othersDontBreak() {
        for (int kind = 0; kind < 7; kind++) {
            NoFartherThanAThrow x = one(kind, 40);
            x.seed(Edges.seedFor(9));
            Edges.is(x.toss(0, 0, 4), 0);
            Edges.is(x.thingOf(0, 5), kind == 4 ? 1 : 0);
        }
    }

    /** Terms, a throw: "who throws is as TIRED as by a CARRY": WEIGHT by 10, cut, and 1; 99 at most; caught or not. */
    static void whoThrowsIsTired() {
        int[] weights = {1, 9, 10, 99};
        int[] tired = {1, 1, 2, 10};
        for (int i = 0; i < 4; i++) {
            NoFartherThanAThrow x = new NoFartherThanAThrow();
            Edges.is(x.thing(6, weights[i], 9, 0), 0);
            Edges.people(x, 99, 99);
            Edges.is(x.toss(0, 0, 1), 1);
            Edges.is(x.manOf(0, 1), tired[i]);
            x.seed(Edges.seedFor(9));
            Edges.is(x.toss(0, 0, 4), 0);
            Edges.is(x.manOf(0, 1), 2 * tired[i]);
            Edges.is(x.manOf(1, 1), 0);
            for (int n = 0; n < 8; n++) {
                Edges.is(x.toss(0, 0, 1), 1);
            }
            Edges.is(x.manOf(0, 1), Math.min(99, 10 * tired[i]));
            Edges.is(x.status(9), 10);
        }
    }

    /** Terms, a throw: "(farther than twice FAR .. it may not be thrown)": FAR as it is ahead of the throw. */
    static void tossWithinTwiceFar() {
        NoFartherThanAThrow x = one(0, 3);
        Edges.refused(x, -6, () -> x.toss(0, 0, 7));
        Edges.is(x.toss(0, 0, 6) >= 0 ? 1 : 0, 1);
        Edges.is(x.thingOf(0, 3), 16);
        NoFartherThanAThrow y = one(1, 1);
        Edges.refused(y, -6, () -> y.toss(0, 0, 1));
    }

    /** Terms, a throw: "(.. in THE RIVER .. it may not be thrown)": over it, to FROM and to TO it may. */
    static void tossNotIntoTheRiver() {
        NoFartherThanAThrow x = one(0, 40);
        Edges.is(x.river(20, 25), 1);
        Edges.refused(x, -6, () -> x.toss(0, 0, 11), () -> x.toss(0, 0, 14));
        Edges.is(x.toss(0, 0, 10) >= 0 ? 1 : 0, 1);
        Edges.is(x.thingOf(0, 3), 20);
        Edges.is(x.toss(0, 0, 5) >= 0 ? 1 : 0, 1);
        Edges.is(x.thingOf(0, 3), 25);
    }

    /** Terms, a throw: "(.. off THE WAY it may not be thrown)": to LONG it may. */
    static void tossNotOffTheWay() {
        NoFartherThanAThrow x = one(0, 40);
        Edges.is(x.ask(0, 20), 60);
        Edges.refused(x, -6, () -> x.toss(0, 0, 11), () -> x.toss(0, 0, 40));
        Edges.is(x.toss(0, 0, 10) >= 0 ? 1 : 0, 1);
        Edges.is(x.thingOf(0, 3), 20);
        Edges.refused(x, -6, () -> x.toss(0, 0, 1));
    }

    /** Promise 37, "-6 d": 0 and 41 steps, and back. */
    static void tossRefusesSteps() {
        NoFartherThanAThrow x = one(0, 80);
        Edges.is(x.ask(0, 99), 60);
        Edges.refused(x, -6, () -> x.toss(0, 0, 0), () -> x.toss(0, 0, 41), () -> x.toss(0, 0, -1),
            () -> x.toss(0, 0, LEAST), () -> x.toss(0, 0, MOST));
        Edges.is(x.toss(0, 0, 40), 0);
        Edges.is(x.toss(0, 0, 1), 1);
    }

    /** Promise 37, "-6 .. it is BROKEN". */
    static void tossRefusesWhatIsBroken() {
        NoFartherThanAThrow x = one(4, 40);
        Edges.breakGlass(x, 0, 0);
        Edges.refused(x, -6, () -> x.toss(0, 0, 1));
    }

    /** Promise 37, "-1", ahead of -6. */
    static void tossRefusesNobody() {
        NoFartherThanAThrow x = one(0, 40);
        Edges.refused(x, -1, () -> x.toss(1, 0, 1), () -> x.toss(-1, 0, 1), () -> x.toss(0, 1, 1),
            () -> x.toss(0, -1, 1), () -> x.toss(1, 0, 0), () -> x.toss(0, 1, 41), () -> x.toss(LEAST, 0, 1),
            () -> x.toss(MOST, 0, 1), () -> x.toss(0, LEAST, 1), () -> x.toss(0, MOST, 1));
    }

    // ---- Terms, A DRAW ----

    /** Terms, A DRAW: "SEED (1 at first) becomes SEED times 1103515245, and 12345": of the first toss. */
    static void theFirstDraw() {
        NoFartherThanAThrow x = one(0, 40);
        Edges.is(x.status(7), 1);
        Edges.is(x.toss(0, 0, 4), 1103527590 / 65536 % 10 < 9 ? 1 : 0);
        Edges.is(x.status(7), 1103527590);
    }

    /** Terms, A DRAW: "(an int, wrapping)". */
    static void seedsWrap() {
        int[] seeds = {2, -1, MOST, LEAST, 0, 1103527590};
        for (int seed : seeds) {
            NoFartherThanAThrow x = one(0, 40);
            Edges.is(x.seed(seed), 1);
            Edges.is(x.toss(0, 0, 1), 1);
            long wide = seed * 1103515245L + 12345L;
            Edges.is(x.status(7), (wide << 32) >> 32);
        }
    }

    /** Terms, A DRAW: "its upper 16 bits, no sign, modulo n": of SEEDS that come to below 0 too. */
    static void drawsHaveNoSign() {
        int below0 = 0;
        for (int seed = 0; seed < 30; seed++) {
            NoFartherThanAThrow x = one(0, 40);
            x.seed(seed);
            int next = seed * 1103515245 + 12345;
            below0 += next < 0 ? 1 : 0;
            long draw = ((next & 0xFFFFFFFFL) / 65536) % 10;
            Edges.is(x.toss(0, 0, 20), draw < 5 ? 1 : 0);
        }
        Edges.is(below0 > 5 && below0 < 25 ? 1 : 0, 1);
    }

    /** Terms, A DRAW: a throw that is refused draws none; one that is sure to be caught draws one. */
    static void whatDraws() {
        NoFartherThanAThrow x = one(0, 40);
        Edges.refused(x, -6, () -> x.toss(0, 0, 41));
        Edges.is(x.status(7), 1);
        Edges.is(x.caught(0, 0, 4), 9);
        Edges.is(x.mean(0, 0, 4), 0);
        Edges.is(x.cast(0, 0), NONE);
        Edges.is(x.carry(0, 0, 1), 11);
        Edges.is(x.status(7), 1);
        Edges.is(x.toss(0, 0, 1), 1);
        Edges.is(x.status(7), 1103527590);
    }
}
