/** Promises 2 to 8 and of the Terms what they say of SHELVES: the boundary cases, sentence by sentence. */
public final class EdgesOfShelvesTest {
    private static final int[] NO_SHELVES = {-1, 8, Edges.LEAST, Edges.MOST};

    public static void main(String[] args) throws IllegalAccessException {
        Edges.run(EdgesOfShelvesTest.class);
    }

    /** One THING, number 0, shown in SHELF 7; SHELF 6 holds NOTHING. */
    private static NoFartherThanAThrow oneShown() {
        NoFartherThanAThrow x = new NoFartherThanAThrow();
        Edges.is(x.thing(0, 1, 1, 0), 0);
        Edges.is(x.show(7, 0), 1);
        return x;
    }

    // ---- Terms ----

    /** Terms, "SHELVES 0 to 7": the first and the last of them. */
    static void shelvesAre0To7() {
        NoFartherThanAThrow x = new NoFartherThanAThrow();
        for (int s = 0; s <= 7; s++) {
            Edges.is(x.row(s, 3, 1), 1);
        }
        for (int s = 0; s <= 7; s++) {
            Edges.is(x.set(s, 0, 100 + s), 1);
        }
        for (int s = 0; s <= 7; s++) {
            Edges.is(x.holds(s), 103);
            Edges.is(x.element(s, 0), 100 + s);
        }
    }

    /** Terms, "SHELVES hold NOTHING (at first)". */
    static void shelvesHoldNothingAtFirst() {
        NoFartherThanAThrow x = new NoFartherThanAThrow();
        for (int s = 0; s <= 7; s++) {
            Edges.is(x.holds(s), -1);
        }
    }

    /** Terms, "a SORT (0 bytes, 1 shorts, 2 ints, 3 longs)": each of the four. */
    static void sortsAre0To3() {
        NoFartherThanAThrow x = new NoFartherThanAThrow();
        for (int sort = 0; sort <= 3; sort++) {
            Edges.is(x.row(0, sort, 1), 1);
            Edges.is(x.holds(0), 100 + sort);
        }
    }

    /** Terms, "0 to 160 elements": none at all. */
    static void aRowMayBeEmpty() {
        NoFartherThanAThrow x = new NoFartherThanAThrow();
        Edges.is(x.row(0, 3, 0), 1);
        Edges.is(x.holds(0), 103);
        Edges.is(x.element(0, 0), 0);
        Edges.refused(x, -5, () -> x.set(0, 0, 1));
    }

    /** Terms, "0 to 160 elements": the 160th. */
    static void aRowMayHave160() {
        NoFartherThanAThrow x = new NoFartherThanAThrow();
        Edges.is(x.row(0, 3, 160), 1);
        Edges.is(x.set(0, 159, 5), 1);
        Edges.is(x.element(0, 159), 5);
        Edges.refused(x, -5, () -> x.set(0, 160, 5));
    }

    /** Terms, "elements, 0 at first": also where another ROW had others. */
    static void elementsAre0AtFirst() {
        NoFartherThanAThrow x = new NoFartherThanAThrow();
        Edges.is(x.row(0, 3, 160), 1);
        Edges.is(x.element(0, 0), 0);
        Edges.is(x.element(0, 159), 0);
        Edges.is(x.set(0, 0, 5), 1);
        Edges.is(x.set(0, 159, 5), 1);
        Edges.is(x.row(0, 3, 160), 1);
        Edges.is(x.element(0, 0), 0);
        Edges.is(x.element(0, 159), 0);
    }

    /** Terms, "what is put in keeps its lowest bits": of bytes the lowest 8. */
    static void bytesKeepTheLowest8() {
        keeps(0, new long[] {127, 128, 255, 256, -128, -129, Long.MAX_VALUE, Long.MIN_VALUE},
            new long[] {127, -128, -1, 0, -128, 127, -1, 0});
    }

    /** Terms, "what is put in keeps its lowest bits": of shorts the lowest 16. */
    static void shortsKeepTheLowest16() {
        keeps(1, new long[] {32767, 32768, 65535, 65536, -32768, -32769, Long.MAX_VALUE, Long.MIN_VALUE},
            new long[] {32767, -32768, -1, 0, -32768, 32767, -1, 0});
    }

    /** Terms, "what is put in keeps its lowest bits": of ints the lowest 32. */
    static void intsKeepTheLowest32() {
        long top = 1L << 31;
        keeps(2, new long[] {top - 1, top, 2 * top - 1, 2 * top, -top, -top - 1, Long.MAX_VALUE, Long.MIN_VALUE},
            new long[] {top - 1, -top, -1, 0, -top, top - 1, -1, 0});
    }

    /** Terms, "what is put in keeps its lowest bits": longs keep all. */
    static void longsKeepAll() {
        long[] v = {Long.MAX_VALUE, Long.MIN_VALUE, -1, 1L << 32};
        keeps(3, v, v);
    }

    private static void keeps(int sort, long[] put, long[] kept) {
        NoFartherThanAThrow x = new NoFartherThanAThrow();
        Edges.is(x.row(0, sort, 1), 1);
        for (int i = 0; i < put.length; i++) {
            Edges.is(x.set(0, 0, put[i]), 1);
            Edges.is(x.element(0, 0), kept[i]);
        }
    }

    // ---- Promise 2: row ----

    /** Promise 2, "-1". */
    static void rowRefusesNoShelf() {
        NoFartherThanAThrow x = new NoFartherThanAThrow();
        for (int s : NO_SHELVES) {
            Edges.refused(x, -1, () -> x.row(s, 0, 1));
        }
    }

    /** Promise 2, "-4": a size below 0. */
    static void rowRefusesASizeBelow0() {
        NoFartherThanAThrow x = new NoFartherThanAThrow();
        Edges.refused(x, -4, () -> x.row(0, 0, -1), () -> x.row(0, 0, Edges.LEAST));
    }

    /** Promise 2, "-6 SORT". */
    static void rowRefusesNoSort() {
        NoFartherThanAThrow x = new NoFartherThanAThrow();
        Edges.refused(x, -6, () -> x.row(0, -1, 1), () -> x.row(0, 4, 1), () -> x.row(0, Edges.LEAST, 1),
            () -> x.row(0, Edges.MOST, 1));
    }

    /** Promise 2, "-7 n above 160". */
    static void rowRefusesMoreThan160() {
        NoFartherThanAThrow x = new NoFartherThanAThrow();
        Edges.refused(x, -7, () -> x.row(0, 0, 161), () -> x.row(0, 3, Edges.MOST));
    }

    /** REFUSALS, "the first that fits, in this order", of promise 2. */
    static void rowRefusesInOrder() {
        NoFartherThanAThrow x = new NoFartherThanAThrow();
        Edges.refused(x, -1, () -> x.row(8, 0, -1), () -> x.row(8, 4, 1), () -> x.row(8, 0, 161));
        Edges.refused(x, -4, () -> x.row(0, 4, -1));
        Edges.refused(x, -6, () -> x.row(0, 4, 161));
    }

    /** Promise 2, "SHELF s holds a new ROW": where a longer one was there is none of it left. */
    static void rowTakesThePlaceOfARow() {
        NoFartherThanAThrow x = new NoFartherThanAThrow();
        Due.numbers(x, 0, 3, 7, 8, 9);
        Edges.is(x.row(0, 1, 2), 1);
        Edges.is(x.holds(0), 101);
        Due.elements(x, 0, 0, 0);
        Edges.refused(x, -5, () -> x.set(0, 2, 1));
    }

    /** Promise 2, "SHELF s holds a new ROW": where a THING was shown. */
    static void rowTakesThePlaceOfAThing() {
        NoFartherThanAThrow x = oneShown();
        Edges.is(x.row(7, 2, 1), 1);
        Edges.is(x.holds(7), 102);
        Edges.is(x.set(7, 0, 3), 1);
        Edges.is(x.status(0), 1);
    }

    /** Promise 2: a refused row() leaves what the SHELF holds. */
    static void aRefusedRowLeavesTheOldOne() {
        NoFartherThanAThrow x = new NoFartherThanAThrow();
        Due.numbers(x, 0, 3, 7, 8);
        Edges.refused(x, -4, () -> x.row(0, 0, -1));
        Edges.refused(x, -6, () -> x.row(0, 4, 0));
        Edges.refused(x, -7, () -> x.row(0, 0, 161));
        Due.elements(x, 0, 7, 8);
    }

    // ---- Promise 3: set ----

    /** Promise 3, "Element i of the ROW becomes v": the first and the last, and no other. */
    static void setPutsTheFirstAndTheLast() {
        NoFartherThanAThrow x = new NoFartherThanAThrow();
        Due.numbers(x, 0, 3, 1, 2, 3);
        Edges.is(x.set(0, 0, 7), 1);
        Due.elements(x, 0, 7, 2, 3);
        Edges.is(x.set(0, 2, 9), 1);
        Due.elements(x, 0, 7, 2, 9);
    }

    /** Promise 3, "-1". */
    static void setRefusesNoShelf() {
        NoFartherThanAThrow x = new NoFartherThanAThrow();
        for (int s : NO_SHELVES) {
            Edges.refused(x, -1, () -> x.set(s, 0, 1));
        }
    }

    /** Promise 3, "-2": a SHELF that holds a THING. */
    static void setRefusesAThing() {
        NoFartherThanAThrow x = oneShown();
        Edges.refused(x, -2, () -> x.set(7, 0, 1));
    }

    /** Promise 3, "-3": a SHELF that holds NOTHING. */
    static void setRefusesNothing() {
        NoFartherThanAThrow x = new NoFartherThanAThrow();
        Edges.refused(x, -3, () -> x.set(0, 0, 1));
    }

    /** Promise 3, "-5": an element that isn't there, below 0 or behind the last. */
    static void setRefusesNoElement() {
        NoFartherThanAThrow x = new NoFartherThanAThrow();
        Due.numbers(x, 0, 3, 1, 2, 3);
        Edges.refused(x, -5, () -> x.set(0, -1, 1), () -> x.set(0, 3, 1), () -> x.set(0, Edges.LEAST, 1),
            () -> x.set(0, Edges.MOST, 1));
    }

    /** REFUSALS, "the first that fits, in this order", of promise 3. */
    static void setRefusesInOrder() {
        NoFartherThanAThrow x = oneShown();
        Edges.refused(x, -1, () -> x.set(8, -1, 1));
        Edges.refused(x, -2, () -> x.set(7, -1, 1));
        Edges.refused(x, -3, () -> x.set(6, -1, 1));
    }

    // ---- Promise 4: copy ----

    private static NoFartherThanAThrow twoRows() {
        NoFartherThanAThrow x = oneShown();
        Due.numbers(x, 0, 3, 1, 2, 3, 4);
        Due.numbers(x, 1, 3, 7, 8, 9);
        Due.numbers(x, 2, 2, 5, 5, 5);
        return x;
    }

    /** Promise 4, "n of them": all of a ROW. */
    static void copyBringsAWholeRow() {
        NoFartherThanAThrow x = twoRows();
        Edges.is(x.copy(1, 0, 0, 1, 3), 1);
        Due.elements(x, 0, 1, 7, 8, 9);
        Due.elements(x, 1, 7, 8, 9);
    }

    /** Promise 4, "n of them": one, the last to the first and the first to the last. */
    static void copyBringsOne() {
        NoFartherThanAThrow x = twoRows();
        Edges.is(x.copy(0, 1, 3, 0, 1), 1);
        Due.elements(x, 1, 4, 8, 9);
        Edges.is(x.copy(0, 1, 0, 2, 1), 1);
        Due.elements(x, 1, 4, 8, 1);
    }

    /** Promise 4: none of them, anywhere in the ROWS and at their ends. */
    static void copyBringsNone() {
        NoFartherThanAThrow x = twoRows();
        Edges.is(x.copy(0, 1, 0, 0, 0), 1);
        Edges.is(x.copy(0, 1, 4, 3, 0), 1);
        Due.elements(x, 0, 1, 2, 3, 4);
        Due.elements(x, 1, 7, 8, 9);
    }

    /** Promise 4: of an empty ROW none. */
    static void copyOfAnEmptyRow() {
        NoFartherThanAThrow x = twoRows();
        Edges.is(x.row(3, 3, 0), 1);
        Edges.is(x.copy(3, 0, 0, 0, 0), 1);
        Edges.is(x.copy(3, 3, 0, 0, 0), 1);
        Edges.refused(x, -5, () -> x.copy(3, 0, 0, 0, 1), () -> x.copy(0, 3, 0, 0, 1));
    }

    /** Promise 4, "(as they were ahead)": a ROW onto itself, onward. */
    static void copyOntoItselfOnward() {
        NoFartherThanAThrow x = twoRows();
        Edges.is(x.copy(0, 0, 0, 1, 3), 1);
        Due.elements(x, 0, 1, 1, 2, 3);
    }

    /** Promise 4, "(as they were ahead)": a ROW onto itself, back. */
    static void copyOntoItselfBack() {
        NoFartherThanAThrow x = twoRows();
        Edges.is(x.copy(0, 0, 1, 0, 3), 1);
        Due.elements(x, 0, 2, 3, 4, 4);
    }

    /** Promise 4, "-1": of either SHELF. */
    static void copyRefusesNoShelf() {
        for (int s : NO_SHELVES) {
            NoFartherThanAThrow x = twoRows();
            Edges.refused(x, -1, () -> x.copy(s, 0, 0, 0, 1), () -> x.copy(0, s, 0, 0, 1));
        }
    }

    /** Promise 4, "-2": a THING in either SHELF. */
    static void copyRefusesAThing() {
        NoFartherThanAThrow x = twoRows();
        Edges.refused(x, -2, () -> x.copy(7, 0, 0, 0, 1), () -> x.copy(0, 7, 0, 0, 1), () -> x.copy(7, 7, 0, 0, 0));
    }

    /** Promise 4, "-2 also of two SORTS". */
    static void copyRefusesTwoSorts() {
        NoFartherThanAThrow x = twoRows();
        Edges.refused(x, -2, () -> x.copy(0, 2, 0, 0, 1), () -> x.copy(2, 0, 0, 0, 1), () -> x.copy(0, 2, 0, 0, 0));
    }

    /** Promise 4, "(when both hold something)": one that holds NOTHING has no SORT. */
    static void twoSortsAreOfTwoRows() {
        NoFartherThanAThrow x = twoRows();
        Edges.refused(x, -3, () -> x.copy(2, 6, 0, 0, 1), () -> x.copy(6, 2, 0, 0, 1));
    }

    /** Promise 4, "-3 either". */
    static void copyRefusesNothing() {
        NoFartherThanAThrow x = twoRows();
        Edges.refused(x, -3, () -> x.copy(6, 0, 0, 0, 1), () -> x.copy(0, 6, 0, 0, 1), () -> x.copy(6, 6, 0, 0, 0),
            () -> x.copy(5, 6, 0, 0, 0));
    }

    /** Promise 4, "-4 n". */
    static void copyRefusesASizeBelow0() {
        NoFartherThanAThrow x = twoRows();
        Edges.refused(x, -4, () -> x.copy(0, 1, 0, 0, -1), () -> x.copy(0, 1, 2, 2, -2),
            () -> x.copy(0, 1, 0, 0, Edges.LEAST));
    }

    /** Promise 4, "-5 i below 0". */
    static void copyRefusesIBelow0() {
        NoFartherThanAThrow x = twoRows();
        Edges.refused(x, -5, () -> x.copy(0, 1, -1, 0, 1), () -> x.copy(0, 1, -1, 0, 0),
            () -> x.copy(0, 1, Edges.LEAST, 0, 1));
    }

    /** Promise 4, "-5 j below 0". */
    static void copyRefusesJBelow0() {
        NoFartherThanAThrow x = twoRows();
        Edges.refused(x, -5, () -> x.copy(0, 1, 0, -1, 1), () -> x.copy(0, 1, 0, -1, 0),
            () -> x.copy(0, 1, 0, Edges.LEAST, 1));
    }

    /** Promise 4, "-5 an end that isn't there": of p. */
    static void copyRefusesAnEndBehindP() {
        NoFartherThanAThrow x = twoRows();
        Edges.refused(x, -5, () -> x.copy(1, 0, 1, 0, 3), () -> x.copy(1, 0, 3, 0, 1), () -> x.copy(1, 0, 4, 0, 0));
    }

    /** Promise 4, "-5 an end that isn't there": of q. */
    static void copyRefusesAnEndBehindQ() {
        NoFartherThanAThrow x = twoRows();
        Edges.refused(x, -5, () -> x.copy(0, 1, 0, 1, 3), () -> x.copy(0, 1, 0, 3, 1), () -> x.copy(0, 1, 0, 4, 0));
    }

    /** Promise 4, "-5": also where i or j and n together are more than an int. */
    static void copyRefusesAnEndBeyondInts() {
        NoFartherThanAThrow x = twoRows();
        Edges.refused(x, -5, () -> x.copy(0, 1, Edges.MOST, 0, Edges.MOST), () -> x.copy(0, 1, 1, 0, Edges.MOST),
            () -> x.copy(0, 1, 0, Edges.MOST, 1), () -> x.copy(0, 1, 0, 1, Edges.MOST));
    }

    /** REFUSALS, "the first that fits, in this order", of promise 4. */
    static void copyRefusesInOrder() {
        NoFartherThanAThrow x = twoRows();
        Edges.refused(x, -1, () -> x.copy(8, 7, 0, 0, 1), () -> x.copy(7, 8, 0, 0, 1), () -> x.copy(8, 6, 0, 0, 1),
            () -> x.copy(0, 8, -1, -1, -1));
        Edges.refused(x, -2, () -> x.copy(7, 6, 0, 0, 1), () -> x.copy(6, 7, 0, 0, 1), () -> x.copy(7, 0, -1, -1, -1),
            () -> x.copy(0, 2, 0, 0, -1), () -> x.copy(0, 2, -1, 0, 1));
        Edges.refused(x, -3, () -> x.copy(6, 0, 0, 0, -1), () -> x.copy(0, 6, -1, 0, 1));
        Edges.refused(x, -4, () -> x.copy(0, 1, -1, 0, -1), () -> x.copy(0, 1, 0, 4, -1));
    }

    // ---- Promise 5: element ----

    /** Promise 5, "0 if there is none": below 0, behind the last. */
    static void elementIs0OutsideTheRow() {
        NoFartherThanAThrow x = new NoFartherThanAThrow();
        Due.numbers(x, 0, 3, 7, 8);
        Edges.is(x.element(0, 0), 7);
        Edges.is(x.element(0, 1), 8);
        Edges.is(x.element(0, 2), 0);
        Edges.is(x.element(0, -1), 0);
        Edges.is(x.element(0, Edges.LEAST), 0);
        Edges.is(x.element(0, Edges.MOST), 0);
    }

    /** Promise 5, "0 if there is none": where there is no ROW, also where one was. */
    static void elementIs0WithoutARow() {
        NoFartherThanAThrow x = oneShown();
        Due.numbers(x, 0, 3, 7, 8);
        Edges.is(x.show(0, 0), 1);
        Edges.is(x.element(0, 0), 0);
        Edges.is(x.show(0, -1), 0);
        Edges.is(x.element(0, 1), 0);
        Edges.is(x.element(6, 0), 0);
        for (int s : NO_SHELVES) {
            Edges.is(x.element(s, 0), 0);
        }
    }

    /** Promise 5, "(nothing is refused)". */
    static void elementRefusesNothing() {
        NoFartherThanAThrow x = oneShown();
        Edges.is(x.element(8, 0), 0);
        Edges.is(x.element(7, 0), 0);
        Edges.is(x.element(6, 0), 0);
        Edges.is(x.row(0, 3, 1), 1);
        Edges.is(x.element(0, 1), 0);
        Edges.notRefused(x);
    }

    // ---- Promise 6: show ----

    /** Promise 6, "holds a THING": of THINGS the first and the last. */
    static void showsTheFirstAndTheLastThing() {
        NoFartherThanAThrow x = new NoFartherThanAThrow();
        for (int i = 0; i < 8; i++) {
            Edges.is(x.thing(0, 1, 1, 0), i);
        }
        Edges.is(x.show(0, 0), 1);
        Edges.is(x.holds(0), 0);
        Edges.is(x.show(7, 7), 1);
        Edges.is(x.holds(7), 7);
    }

    /** Promise 6, "or NOTHING (thing NONE)": 0, whatever was there, a ROW too. */
    static void showsNothing() {
        NoFartherThanAThrow x = oneShown();
        Edges.is(x.show(7, -1), 0);
        Edges.is(x.holds(7), -1);
        Edges.is(x.show(7, -1), 0);
        Due.numbers(x, 0, 3, 7, 8);
        Edges.is(x.show(0, -1), 0);
        Edges.is(x.holds(0), -1);
        Edges.notRefused(x);
    }

    /** Promise 6: a THING where a ROW was. */
    static void showsAThingForARow() {
        NoFartherThanAThrow x = oneShown();
        Due.numbers(x, 0, 3, 7, 8);
        Edges.is(x.show(0, 0), 1);
        Edges.is(x.holds(0), 0);
        Edges.refused(x, -2, () -> x.set(0, 0, 1));
    }

    /** Promise 6, "-1": no such SHELF. */
    static void showRefusesNoShelf() {
        NoFartherThanAThrow x = oneShown();
        for (int s : NO_SHELVES) {
            Edges.refused(x, -1, () -> x.show(s, 0), () -> x.show(s, -1));
        }
    }

    /** Promise 6, "-1": no such THING; NONE alone is no THING that may be. */
    static void showRefusesNoThing() {
        NoFartherThanAThrow x = oneShown();
        Edges.refused(x, -1, () -> x.show(7, 1), () -> x.show(7, -2), () -> x.show(7, 8), () -> x.show(7, Edges.LEAST),
            () -> x.show(7, Edges.MOST));
    }

    // ---- Promise 7: holds ----

    /** Promise 7, "NONE NOTHING, or no such SHELF", which is no refusal. */
    static void holdsIsNoneOfNoShelf() {
        NoFartherThanAThrow x = oneShown();
        for (int s : NO_SHELVES) {
            Edges.is(x.holds(s), -1);
        }
        Edges.is(x.holds(6), -1);
        Edges.notRefused(x);
    }

    /** Promise 7, "a THING's number": also that of the first, 0. */
    static void holdsIsAThingsNumber() {
        NoFartherThanAThrow x = oneShown();
        Edges.is(x.holds(7), 0);
    }

    /** Promise 7, "100 and the SORT of a ROW": also of an empty one. */
    static void holdsIs100AndTheSort() {
        NoFartherThanAThrow x = new NoFartherThanAThrow();
        for (int sort = 0; sort <= 3; sort++) {
            Edges.is(x.row(sort, sort, 0), 1);
            Edges.is(x.holds(sort), 100 + sort);
        }
    }

    // ---- Promise 8: says ----

    /** One of each KIND in the SHELF of its number, all of WEIGHT 10, EXTRA 7; SHELF 7 holds NOTHING. */
    private static NoFartherThanAThrow allKinds() {
        NoFartherThanAThrow x = new NoFartherThanAThrow();
        for (int kind = 0; kind < 7; kind++) {
            Edges.is(x.thing(kind, 10, 7, 0), kind);
            Edges.is(x.show(kind, kind), 1);
        }
        return x;
    }

    /** Promise 8, "-1 SHELF". */
    static void saysRefusesNoShelf() {
        for (int s : NO_SHELVES) {
            NoFartherThanAThrow x = allKinds();
            Edges.refused(x, -1, () -> x.says(s, 0));
        }
    }

    /** Promise 8, "-1 KIND": below 0, above 6. */
    static void saysRefusesNoKind() {
        NoFartherThanAThrow x = allKinds();
        Edges.refused(x, -1, () -> x.says(0, -1), () -> x.says(0, 7), () -> x.says(6, 7), () -> x.says(0, Edges.LEAST),
            () -> x.says(0, Edges.MOST));
    }

    /** Promise 8, "-2": a ROW where a THING is wanted. */
    static void saysRefusesARow() {
        NoFartherThanAThrow x = allKinds();
        Edges.is(x.row(7, 0, 1), 1);
        Edges.refused(x, -2, () -> x.says(7, 0), () -> x.says(7, 6));
    }

    /** Promise 8, "-2 also a THING of another KIND", which one under the KIND wanted isn't (REFUSALS, OTHER). */
    static void saysRefusesAnotherKind() {
        NoFartherThanAThrow x = allKinds();
        // by the KIND of the THING: the KINDS it may be taken for
        int[][] may = {{0}, {0, 1}, {0, 2}, {0, 2, 3}, {0, 4}, {0, 1, 5}, {0, 1, 6}};
        for (int s = 0; s < 7; s++) {
            boolean[] isOne = new boolean[7];
            for (int kind : may[s]) {
                isOne[kind] = true;
            }
            for (int kind = 0; kind < 7; kind++) {
                Edges.is(x.says(s, kind) >= 0 ? 1 : x.says(s, kind), isOne[kind] ? 1 : -2);
            }
        }
    }

    /** Promise 8, "-3". */
    static void saysRefusesNothing() {
        NoFartherThanAThrow x = allKinds();
        Edges.refused(x, -3, () -> x.says(7, 0), () -> x.says(7, 6));
    }

    /** REFUSALS, "the first that fits, in this order", of promise 8. */
    static void saysRefusesInOrder() {
        NoFartherThanAThrow x = allKinds();
        Edges.refused(x, -1, () -> x.says(7, 7), () -> x.says(8, 7), () -> x.says(8, 1));
        Edges.is(x.row(7, 0, 1), 1);
        Edges.refused(x, -1, () -> x.says(7, -1));
    }

    /** Promise 8, "THING its WEIGHT": whatever KIND it is of, 1 and 99. */
    static void saysTheWeight() {
        NoFartherThanAThrow x = new NoFartherThanAThrow();
        Edges.is(x.thing(0, 1, 1, 0), 0);
        Edges.is(x.thing(6, 99, 9, 0), 1);
        Edges.is(x.show(0, 0), 1);
        Edges.is(x.show(1, 1), 1);
        Edges.is(x.says(0, 0), 1);
        Edges.is(x.says(1, 0), 99);
    }

    /** Promise 8, "HEAVY, ROUND, PARTED EXTRA": 1 and 9, also taken for a HEAVY one. */
    static void saysExtra() {
        NoFartherThanAThrow x = new NoFartherThanAThrow();
        int[] kinds = {1, 5, 6};
        for (int i = 0; i < 6; i++) {
            int kind = kinds[i / 2];
            int extra = i % 2 == 0 ? 1 : 9;
            Edges.is(x.thing(kind, 40, extra, 0), i);
            Edges.is(x.show(i, i), 1);
            Edges.is(x.says(i, kind), extra);
            Edges.is(x.says(i, 1), extra);
        }
    }

    /** Promise 8, "FAR of one of STRENGTH 9": 40 and WIND at most, WIND alone at least; of a FEATHER half of it. */
    static void saysFarOfStrength9() {
        NoFartherThanAThrow x = new NoFartherThanAThrow();
        int[][] things = {{2, 1}, {2, 2}, {2, 3}, {2, 90}, {2, 91}, {3, 2}, {3, 3}, {3, 91}};
        int[] still = {40, 40, 30, 1, 0, 20, 15, 0};
        int[] windy = {49, 49, 39, 10, 9, 24, 19, 4};
        for (int i = 0; i < 8; i++) {
            Edges.is(x.thing(things[i][0], things[i][1], 1, 0), i);
            Edges.is(x.show(i, i), 1);
            Edges.is(x.says(i, things[i][0]), still[i]);
        }
        Edges.is(x.ask(1, 9), 0);
        for (int i = 0; i < 8; i++) {
            Edges.is(x.says(i, things[i][0]), windy[i]);
        }
    }

    /** Promise 8, "who isn't TIRED": PEOPLE there are don't matter, as TIRED as they may be. */
    static void saysFarOfOneWhoIsNotTired() {
        NoFartherThanAThrow x = new NoFartherThanAThrow();
        Edges.is(x.thing(2, 10, 1, 0), 0);
        Edges.people(x, 9);
        Edges.is(x.carry(0, 0, 1), 1);
        Edges.is(x.far(0, 0), 7);
        Edges.is(x.show(0, 0), 1);
        Edges.is(x.says(0, 2), 9);
    }

    /** Promise 8, "GLASS 1 if BROKEN, else 0". */
    static void saysBroken() {
        NoFartherThanAThrow x = new NoFartherThanAThrow();
        Edges.is(x.thing(4, 10, 9, 0), 0);
        Edges.people(x, 9);
        Edges.is(x.show(0, 0), 1);
        Edges.is(x.says(0, 4), 0);
        Edges.breakGlass(x, 0, 0);
        Edges.is(x.says(0, 4), 1);
    }
}
