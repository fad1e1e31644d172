/** Promises 18 and 19, what the Terms say of a VALLEY, its ITEMS and the FAULT, and the Details: the boundary cases. */
public final class EdgesOfTextsTest {
    private static final int NONE = -1;

    public static void main(String[] args) throws IllegalAccessException {
        Edges.run(EdgesOfTextsTest.class);
    }

    /** A THING at 30 (number 0), FROM 40, TO 45, LONG 60, room for all. */
    private static NoFartherThanAThrow some() {
        NoFartherThanAThrow x = new NoFartherThanAThrow();
        Edges.is(x.thing(0, 10, 1, 30), 0);
        Edges.is(x.river(40, 45), 1);
        return x;
    }

    /** The text is a VALLEY of so many ITEMS. */
    private static void reads(NoFartherThanAThrow x, String text, int items) {
        Due.text(x, 0, 0, text);
        Edges.is(x.valley(0), items);
        Edges.is(x.fault(), NONE);
    }

    /** The text has its FAULT there, and nothing of it is told. */
    private static void fault(NoFartherThanAThrow x, String text, int place) {
        Due.text(x, 0, 0, text);
        Edges.refused(x, -6, () -> x.valley(0));
        Edges.is(x.fault(), place);
    }

    private static void faults(int place, String... texts) {
        for (String text : texts) {
            fault(some(), text, place);
        }
    }

    // ---- Terms, ITEMS ----

    /** Terms, "ITEM, then any number of times ; and ITEM": one ITEM alone. */
    static void oneItemIsAValley() {
        reads(some(), "thing 0 1 1 0", 1);
        reads(some(), "man 1", 1);
        reads(some(), "want 0 1 1", 1);
        reads(some(), "long 60", 1);
        reads(some(), "river 0 0", 1);
        reads(some(), "wind 1", 1);
    }

    /** Terms, "any number of times ; and ITEM": as many as 160 elements hold. */
    static void asManyItemsAsARowHolds() {
        NoFartherThanAThrow x = some();
        reads(x, "wind 1;".repeat(22) + "wind 8", 23);
        Edges.is(x.status(6), 8);
    }

    /** Terms, "(the number of elements, if it ends too early)": a text of none. */
    static void anEmptyTextEndsTooEarly() {
        faults(0, "");
    }

    /** Terms, "(the number of elements, if it ends too early)": where an ITEM is due. */
    static void aTextThatEndsBehindASign() {
        faults(7, "wind 1;");
        faults(14, "wind 1;wind 2;");
    }

    /** Terms, "(the number of elements, if it ends too early)": within each word. */
    static void aTextThatEndsWithinAWord() {
        String[] words = {"thing", "man", "want", "long", "river", "wind"};
        for (String word : words) {
            for (int n = 1; n <= word.length(); n++) {
                faults(n, word.substring(0, n));
                faults(6 + n, "man 1;" + word.substring(0, n));
            }
        }
    }

    /** Terms, "(the number of elements, if it ends too early)": where a blank or a NUMBER is due. */
    static void aTextThatEndsBeforeANumber() {
        faults(6, "thing ");
        faults(7, "thing 0");
        faults(8, "thing 0 ");
        faults(9, "thing 0 1");
        faults(10, "thing 0 1 ");
        faults(11, "thing 0 1 1");
        faults(12, "thing 0 1 1 ");
        faults(4, "man ");
        faults(5, "want ");
        faults(6, "want 0");
        faults(7, "want 0 ");
        faults(8, "want 0 1");
        faults(9, "want 0 1 ");
        faults(5, "long ");
        faults(6, "river ");
        faults(7, "river 5");
        faults(8, "river 5 ");
        faults(5, "wind ");
    }

    /** Terms, the FAULT is "the first place at which an element can't stand": in each word, each letter of it. */
    static void aLetterThatCantStand() {
        String[] words = {"thing", "man", "want", "long", "river", "wind"};
        for (String word : words) {
            for (int i = 0; i < word.length(); i++) {
                faults(i, word.substring(0, i) + "?" + word.substring(i + 1) + " 1 1 1 1");
                faults(i, word.substring(0, i) + " " + word.substring(i));
            }
            faults(0, word.substring(0, 1).toUpperCase() + word.substring(1) + " 1 1 1 1");
            faults(word.length(), word + word.charAt(word.length() - 1) + " 1 1 1 1");
        }
    }

    /** Terms, the FAULT: want and wind begin with the same letter; what is neither fails at its second. */
    static void wantAndWindPartAtTheSecondLetter() {
        faults(1, "w", "wx", "w nd 1");
        faults(2, "wa", "waxt 0 1 1", "wi", "wixd 1");
        faults(3, "wand 1", "wint 0 1 1");
    }

    /** Terms, "then any number of times ; and ITEM": nothing else between ITEMS. */
    static void nothingButASemicolonBetweenItems() {
        faults(5, "man 1 ", "man 1 ;man 1", "man 1,man 1", "man 1man 1", "man 1:man 1");
        faults(6, "man 1; man 1", "man 1;;man 1", "man 1;1");
        faults(0, ";man 1", " man 1");
    }

    /** Terms, "One blank between words and NUMBERS": not none, not two, no other sign. */
    static void oneBlankBetween() {
        faults(3, "man1", "man,1", "man;1");
        faults(4, "man  1");
        faults(7, "thing 0,1 1 0", "thing 0;1 1 0");
        faults(8, "thing 0  1 1 0");
        faults(9, "thing 0 1-1 0");
        faults(10, "thing 0 1  1 0");
        faults(12, "thing 0 1 1  0");
        faults(7, "river 5-9");
        faults(8, "river 5  9");
        faults(7, "want 0  1 1");
        faults(9, "want 0 1  1");
    }

    /** Terms, "NUMBERS (1 or 2 digits)": two, of which the first may be 0. */
    static void numbersOfTwoDigits() {
        NoFartherThanAThrow x = some();
        reads(x, "thing 04 05 09 03;man 01;want 00 07 00;long 60;river 08 09;wind 05", 6);
        int[] thing = {4, 5, 9, 3};
        for (int what = 0; what < 4; what++) {
            Edges.is(x.thingOf(1, what), thing[what]);
        }
        Edges.is(x.manOf(0, 0), 1);
        Edges.is(x.wantOf(0, 1), 7);
        Edges.is(x.status(4), 8);
        Edges.is(x.status(5), 9);
        Edges.is(x.status(6), 5);
    }

    /** Terms, "NUMBERS (1 or 2 digits)": a third can't stand. */
    static void aThirdDigitCantStand() {
        faults(6, "man 100", "man 011", "man 999");
        faults(8, "thing 001 1 1 0");
        faults(10, "thing 0 100 1 0");
        faults(12, "thing 0 1 011 0");
        faults(14, "thing 0 1 1 001");
        faults(7, "want 000 1 1", "long 600", "wind 001");
        faults(9, "want 0 001 1");
        faults(11, "want 0 1 001");
        faults(8, "river 001 9");
        faults(10, "river 5 099");
    }

    /** Terms, "NUMBERS (1 or 2 digits)": the signs next to 0 and 9 are none, nor is a sign ahead. */
    static void digitsAre0To9() {
        faults(4, "man /", "man :", "man -1", "man +1", "man x");
        faults(5, "man 1/", "man 1:", "man 1x", "man 1-");
        reads(some(), "man 90;man 9;man 19", 3);
    }

    /** Terms, a VALLEY is by the elements of a ROW; "(As ints: of longs the lowest 32 bits)". */
    static void lettersAsInts() {
        NoFartherThanAThrow x = some();
        Due.numbers(x, 0, 3, 'm' + (1L << 32), 'a' - (1L << 32), 'n', ' ' + (5L << 40), '7');
        Edges.is(x.valley(0), 1);
        Edges.is(x.manOf(0, 0), 7);
        Due.numbers(x, 0, 2, 'm', 'a' + 256, 'n', ' ', '7');
        Edges.refused(x, -6, () -> x.valley(0));
        Edges.is(x.fault(), 1);
        Due.numbers(x, 0, 1, 'm', 'a', 'n', ' ', '7' + 256);
        Edges.refused(x, -6, () -> x.valley(0));
        Edges.is(x.fault(), 4);
        Due.numbers(x, 0, 0, 'm' + 256, 'a' - 256, 'n', ' ', '7');
        Edges.is(x.valley(0), 1);
    }

    /** Terms, a VALLEY: elements that are 0 or below are no letters. */
    static void elementsBelow1AreNoLetters() {
        NoFartherThanAThrow x = some();
        Due.numbers(x, 0, 2, 'm', 'a', 'n', ' ', '7', 0);
        Edges.refused(x, -6, () -> x.valley(0));
        Edges.is(x.fault(), 5);
        Due.numbers(x, 0, 2, -1);
        Edges.refused(x, -6, () -> x.valley(0));
        Edges.is(x.fault(), 0);
        Due.numbers(x, 0, 2, 'm', 'a', 'n', 0, '7');
        Edges.refused(x, -6, () -> x.valley(0));
        Edges.is(x.fault(), 3);
        Due.numbers(x, 0, 2, 'm', 'a', 'n', -1, '7');
        Edges.refused(x, -6, () -> x.valley(0));
        Edges.is(x.fault(), 3);
    }

    // ---- Terms, NUMBERS that may be and may not ----

    /** Terms, "thing K W E S": KIND 0 and 6; 7 may not be. */
    static void kindsInTexts() {
        reads(some(), "thing 0 1 1 0;thing 6 1 1 0", 2);
        faults(6, "thing 7 1 1 0", "thing 10 1 1 0", "thing 99 1 1 0", "thing 7", "thing 7x");
    }

    /** Terms, "thing K W E S": WEIGHT 1 and 99; 0 may not be. */
    static void weightsInTexts() {
        reads(some(), "thing 0 1 1 0;thing 0 99 1 0", 2);
        faults(8, "thing 0 0 1 0", "thing 0 00 1 0", "thing 0 0", "thing 0 0x");
    }

    /** Terms, "thing K W E S": EXTRA 1 and 9; 0 and 10 may not be. */
    static void extrasInTexts() {
        reads(some(), "thing 0 1 1 0;thing 0 1 9 0", 2);
        faults(10, "thing 0 1 0 0", "thing 0 1 10 0", "thing 0 1 00 0", "thing 0 1 99 0");
        faults(11, "thing 0 99 0 0");
    }

    /** Terms, "thing K W E S": STEP 0 and LONG, FROM and TO; behind LONG and in THE RIVER it may not be. */
    static void stepsInTexts() {
        reads(some(), "thing 0 1 1 0;thing 0 1 1 60;thing 0 1 1 40;thing 0 1 1 45", 4);
        faults(12, "thing 0 1 1 61", "thing 0 1 1 99", "thing 0 1 1 41", "thing 0 1 1 44");
        faults(27, "thing 0 1 1 60;thing 0 1 1 61");
    }

    /** Terms, "man S": STRENGTH 1 and 99; 0 may not be. */
    static void strengthsInTexts() {
        reads(some(), "man 1;man 99", 2);
        faults(4, "man 0", "man 00", "man 0;man 1", "man 0x");
    }

    /** Terms, "want T S V": T a THING there is, the last too; the next may not be. */
    static void thingsOfWantsInTexts() {
        reads(some(), "want 0 1 1;thing 0 1 1 0;want 1 1 1", 3);
        faults(5, "want 1 1 1", "want 8 1 1", "want 99 1 1", "want 01 1 1");
        faults(5, "want 1 1 1;thing 0 1 1 0");
        NoFartherThanAThrow x = new NoFartherThanAThrow();
        fault(x, "want 0 1 1", 5);
    }

    /** Terms, "want T S V": STEP as of a THING. */
    static void stepsOfWantsInTexts() {
        reads(some(), "want 0 0 1;want 0 60 1;want 0 40 1;want 0 45 1", 4);
        faults(7, "want 0 61 1", "want 0 99 1", "want 0 41 1", "want 0 44 1");
    }

    /** Terms, "want T S V": WORTH 0 and 99. */
    static void worthsInTexts() {
        NoFartherThanAThrow x = some();
        reads(x, "want 0 1 0;want 0 1 99", 2);
        Edges.is(x.wantOf(0, 2), 0);
        Edges.is(x.wantOf(1, 2), 99);
    }

    /** Terms, "long N": LONG 1 and 99; 0 may not be. */
    static void longInTexts() {
        NoFartherThanAThrow x = new NoFartherThanAThrow();
        reads(x, "long 99;long 1", 2);
        Edges.is(x.status(3), 1);
        reads(x, "long 1;long 99", 2);
        Edges.is(x.status(3), 99);
        faults(5, "long 0", "long 00");
    }

    /** Terms, "long N (no less than any STEP that is told ..)": of a THING, told ahead or in the same text. */
    static void longNoLessThanAThingsStep() {
        reads(new NoFartherThanAThrow(), "thing 0 1 1 50;long 50", 2);
        fault(new NoFartherThanAThrow(), "thing 0 1 1 50;long 49", 20);
        NoFartherThanAThrow x = new NoFartherThanAThrow();
        Edges.is(x.thing(0, 1, 1, 50), 0);
        fault(x, "long 49", 5);
        reads(x, "long 50", 1);
    }

    /** Terms, "long N (no less than any STEP that is told ..)": of a WANT, told ahead or in the same text. */
    static void longNoLessThanAWantsStep() {
        reads(new NoFartherThanAThrow(), "thing 0 1 1 0;want 0 50 1;long 50", 3);
        fault(new NoFartherThanAThrow(), "thing 0 1 1 0;want 0 50 1;long 49", 31);
        NoFartherThanAThrow x = new NoFartherThanAThrow();
        Edges.is(x.thing(0, 1, 1, 0), 0);
        Edges.is(x.want(0, 50, 1), 0);
        fault(x, "long 49", 5);
        reads(x, "long 50", 1);
    }

    /** Terms, "long N (no less .. than TO)". */
    static void longNoLessThanTo() {
        reads(new NoFartherThanAThrow(), "river 10 50;long 50", 2);
        fault(new NoFartherThanAThrow(), "river 10 50;long 49", 17);
        fault(new NoFartherThanAThrow(), "river 50 50;long 49", 17);
        faults(5, "long 44");
        reads(some(), "long 45", 1);
    }

    /** Terms, "river F T (FROM, TO ..)": FROM no more than TO; "of river that may not be: that of T". */
    static void riverFromNoMoreThanTo() {
        reads(some(), "river 5 5;river 0 0;river 60 60", 3);
        faults(8, "river 6 5", "river 1 0");
        faults(9, "river 10 9", "river 99 0");
    }

    /** Terms, "river F T (.. no farther than LONG)"; the FAULT is at T. */
    static void riverNoFartherThanLong() {
        reads(some(), "river 50 60", 1);
        faults(9, "river 50 61", "river 61 61", "river 99 99");
        reads(some(), "long 99;river 50 99", 2);
    }

    /** Terms, "river F T (.. nothing being told in it ..)": no THING; the FAULT is at T. */
    static void noThingInARiverInTexts() {
        reads(some(), "river 30 60;river 0 30;river 30 30", 3);
        faults(9, "river 29 31");
        faults(8, "river 0 60", "river 0 31");
        fault(new NoFartherThanAThrow(), "thing 0 1 1 9;river 8 10", 22);
    }

    /** Terms, "river F T (.. nothing being told in it ..)": no WANT; the FAULT is at T. */
    static void noWantInARiverInTexts() {
        reads(some(), "want 0 50 1;river 50 60;river 45 50", 3);
        fault(some(), "want 0 50 1;river 49 51", 21);
        fault(some(), "want 0 9 1;river 8 10", 19);
    }

    /** Terms, "of river that may not be: that of T": F, which may be, and no T is no such NUMBER. */
    static void riverWithoutT() {
        faults(8, "river 70");
        faults(9, "river 70 ", "river 70 x");
        faults(7, "river 9;wind 1");
    }

    /** Terms, "wind N": WIND 0 and 9; 10 may not be. */
    static void windInTexts() {
        NoFartherThanAThrow x = some();
        reads(x, "wind 0", 1);
        reads(x, "wind 9", 1);
        Edges.is(x.status(6), 9);
        faults(5, "wind 10", "wind 99", "wind 10x");
    }

    /** Terms, "of a NUMBER that may not be the place of its first digit": also where the text ends behind it. */
    static void aNumberThatMayNotBeAtTheEnd() {
        faults(4, "man 0");
        faults(6, "thing 9");
        faults(5, "wind 99", "long 0", "want 9");
        faults(8, "thing 0 0");
    }

    /** Terms, the FAULT is "the first place": a NUMBER that may not be is ahead of what can't stand behind it. */
    static void theFirstOfTwoFaults() {
        faults(4, "man 0?man", "man 0;?");
        faults(6, "thing 9?", "thing 9 0 0 99");
        faults(8, "thing 0 0 0 99");
        faults(10, "thing 0 1 0 99");
        faults(5, "man 1?man 0", "man 1 ;man 0");
        faults(10, "man 1;man 0;?");
    }

    // ---- Terms, "All is told over what there is, or nothing" ----

    /** Terms, "All is told over what there is": what was there stays, what is told comes behind it. */
    static void allIsToldOverWhatThereIs() {
        NoFartherThanAThrow x = some();
        Edges.people(x, 50);
        Edges.is(x.want(0, 1, 5), 0);
        Edges.is(x.carry(0, 0, -1), 29);
        reads(x, "thing 1 2 3 4;man 6;want 1 7 8", 3);
        int[] first = {0, 10, 1, 29, 0, 0};
        int[] second = {1, 2, 3, 4, -1, 0};
        for (int what = 0; what < 6; what++) {
            Edges.is(x.thingOf(0, what), first[what]);
            Edges.is(x.thingOf(1, what), second[what]);
        }
        Edges.is(x.manOf(0, 0), 50);
        Edges.is(x.manOf(0, 1), 2);
        Edges.is(x.manOf(1, 0), 6);
        Edges.is(x.manOf(1, 1), 0);
        Edges.is(x.wantOf(0, 2), 5);
        Edges.is(x.wantOf(1, 2), 8);
        int[] counts = {2, 2, 2, 60, 40, 45, 0, 1, 0, 1};
        for (int what = 0; what < 10; what++) {
            Edges.is(x.status(what), counts[what]);
        }
    }

    /** Terms, "or nothing": of a text with a FAULT at its end nothing is told, of no ITEM. */
    static void orNothingIsTold() {
        String[] items = {"thing 0 1 1 0", "man 1", "want 0 1 1", "long 99", "river 3 9", "wind 5"};
        for (String item : items) {
            fault(some(), item + ";?", item.length() + 1);
        }
    }

    /** Terms, "All is told": an ITEM counts for those behind it, and not for those ahead of it. */
    static void itemsCountForThoseBehindThem() {
        NoFartherThanAThrow x = new NoFartherThanAThrow();
        reads(x, "long 99;thing 0 1 1 99;river 50 98;want 0 50 1;wind 3;wind 4", 6);
        Edges.is(x.status(6), 4);
        fault(new NoFartherThanAThrow(), "thing 0 1 1 99;long 99", 12);
        fault(new NoFartherThanAThrow(), "river 50 55;thing 0 1 1 51", 24);
        reads(new NoFartherThanAThrow(), "river 50 55;river 0 0;thing 0 1 1 51", 3);
    }

    // ---- Terms and Details: what there is no room for ----

    /** Terms, "what there is no room for can't stand: its word": the ninth THING. */
    static void noRoomForAThing() {
        NoFartherThanAThrow x = new NoFartherThanAThrow();
        for (int i = 0; i < 7; i++) {
            Edges.is(x.thing(0, 1, 1, 0), i);
        }
        fault(x, "thing 0 1 1 0;thing 0 1 1 0", 14);
        reads(x, "thing 0 1 1 0", 1);
        fault(x, "thing 0 1 1 0", 0);
        Edges.is(x.status(0), 8);
    }

    /** Terms, "what there is no room for can't stand: its word": the ninth of the PEOPLE. */
    static void noRoomForAMan() {
        NoFartherThanAThrow x = new NoFartherThanAThrow();
        Edges.people(x, 1, 1, 1, 1, 1, 1, 1);
        fault(x, "man 1;man 1", 6);
        reads(x, "man 1", 1);
        fault(x, "man 1", 0);
        Edges.is(x.status(1), 8);
    }

    /** Terms, "what there is no room for can't stand: its word": the fifth WANT. */
    static void noRoomForAWant() {
        NoFartherThanAThrow x = some();
        for (int i = 0; i < 3; i++) {
            Edges.is(x.want(0, 1, 1), i);
        }
        fault(x, "want 0 1 1;want 0 1 1", 11);
        reads(x, "want 0 1 1", 1);
        fault(x, "want 0 1 1", 0);
        Edges.is(x.status(2), 4);
    }

    private static NoFartherThanAThrow full() {
        NoFartherThanAThrow x = new NoFartherThanAThrow();
        for (int i = 0; i < 8; i++) {
            Edges.is(x.thing(0, 1, 1, 0), i);
            Edges.is(x.man(1), i);
        }
        for (int i = 0; i < 4; i++) {
            Edges.is(x.want(0, 1, 1), i);
        }
        return x;
    }

    /** Details, "Whether there is room for a word is asked when its letters stand whole": then it is, at the word. */
    static void roomIsAskedWhenTheLettersStandWhole() {
        String[] words = {"thing", "man", "want"};
        for (String word : words) {
            fault(full(), word, 0);
            fault(full(), word + "?", 0);
            fault(full(), word + " 1 1 1 1", 0);
            fault(full(), "wind 1;" + word, 7);
        }
    }

    /** Details, "until then the first element that is not as it is the FAULT". */
    static void untilThenTheElementThatIsNotAsItIs() {
        String[] words = {"thing", "man", "want"};
        for (String word : words) {
            for (int i = 1; i < word.length(); i++) {
                fault(full(), word.substring(0, i) + "?" + word.substring(i + 1) + " 1", i);
            }
        }
    }

    /** Details, "or the number of elements": where the text ends within the word. */
    static void untilThenTheNumberOfElements() {
        String[] words = {"thing", "man", "want"};
        for (String word : words) {
            for (int n = 1; n < word.length(); n++) {
                fault(full(), word.substring(0, n), n);
            }
        }
    }

    /** Terms, of the others there is always room: LONG, THE RIVER, WIND. */
    static void whatNeedsNoRoom() {
        reads(full(), "long 99;river 50 60;wind 9", 3);
    }

    // ---- Promise 18: valley ----

    /** Promise 18, "how many ITEMS". */
    static void valleyAnswersHowManyItems() {
        NoFartherThanAThrow x = new NoFartherThanAThrow();
        reads(x, "wind 1", 1);
        reads(x, "wind 1;wind 1", 2);
        reads(x, "thing 0 1 1 0;man 1;want 0 1 1;long 50;river 1 2;wind 3", 6);
    }

    /** Promise 18, "-1". */
    static void valleyRefusesNoShelf() {
        NoFartherThanAThrow x = some();
        Edges.refused(x, -1, () -> x.valley(-1), () -> x.valley(8), () -> x.valley(Edges.LEAST),
            () -> x.valley(Edges.MOST));
    }

    /** Promise 18, "-2". */
    static void valleyRefusesAThing() {
        NoFartherThanAThrow x = some();
        Edges.is(x.show(0, 0), 1);
        Edges.refused(x, -2, () -> x.valley(0));
    }

    /** Promise 18, "-3". */
    static void valleyRefusesNothing() {
        NoFartherThanAThrow x = some();
        Edges.refused(x, -3, () -> x.valley(0));
    }

    // ---- Promise 19: fault ----

    /** Promise 19, "NONE: there was none, or none yet". */
    static void noFaultYet() {
        NoFartherThanAThrow x = some();
        Edges.is(x.fault(), NONE);
        fault(x, "?", 0);
        reads(x, "man 1", 1);
        Edges.is(x.fault(), NONE);
        Due.text(x, 0, 0, "man 1;?");
        Edges.is(x.valley(0), -6);
        Edges.is(x.fault(), 6);
    }

    /** Promise 19, "the latest valley() that came to a ROW": one that is refused -1, -2, -3 isn't. */
    static void theFaultOfTheLatestThatCameToARow() {
        NoFartherThanAThrow x = some();
        Edges.is(x.show(1, 0), 1);
        Edges.refused(x, -3, () -> x.valley(2));
        Edges.is(x.fault(), NONE);
        fault(x, "man?", 3);
        Edges.is(x.valley(8), -1);
        Edges.is(x.fault(), 3);
        Edges.is(x.valley(1), -2);
        Edges.is(x.fault(), 3);
        Edges.is(x.valley(2), -3);
        Edges.is(x.fault(), 3);
        reads(x, "man 1", 1);
        Edges.is(x.valley(2), -3);
        Edges.is(x.fault(), NONE);
    }

    /** Promise 19: the FAULT of a text of 160 elements, at its last one and behind it. */
    static void theFarthestFault() {
        String begin = "wind 1;".repeat(22);
        fault(some(), begin + "wind x", 159);
        fault(some(), begin + "thing ", 160);
        reads(some(), begin + "wind 1", 23);
    }
}
