/** Promises 18 and 19: valleys read from texts, and the FAULT. */
public final class TextTest {
    public static void main(String[] args) {
        wholeValley();
        eachItem();
        refusals();
        letters();
        numbers();
        room();
        toldOver();
        allOrNothing();
        sorts();
        Due.finish();
    }

    /** The FAULT of a text in a valley as given by another text. */
    private static void fault(String before, String text, int place) {
        NoFartherThanAThrow x = new NoFartherThanAThrow();
        if (!before.isEmpty()) {
            Due.text(x, 1, 1, before);
            Due.due("before: " + before, x.valley(1) > 0 ? 1 : 0, 1);
        }
        int things = x.status(0);
        int people = x.status(1);
        Due.text(x, 0, 0, text);
        Due.due("valley of '" + text + "'", x.valley(0), -6);
        Due.due("fault of '" + text + "'", x.fault(), place);
        Due.due("things as before", x.status(0), things);
        Due.due("people as before", x.status(1), people);
        Due.refusals(x, 0, 0, 0, 0, 0, 1, 0);
    }

    private static void reads(String before, String text, int items) {
        NoFartherThanAThrow x = new NoFartherThanAThrow();
        if (!before.isEmpty()) {
            Due.text(x, 1, 1, before);
            Due.due("before: " + before, x.valley(1) > 0 ? 1 : 0, 1);
        }
        Due.text(x, 0, 0, text);
        Due.due("valley of '" + text + "'", x.valley(0), items);
        Due.due("fault of '" + text + "'", x.fault(), -1);
        Due.refusals(x, 0, 0, 0, 0, 0, 0, 0);
    }

    private static void wholeValley() {
        NoFartherThanAThrow x = new NoFartherThanAThrow();
        Due.text(x, 0, 2, "thing 5 30 4 7;man 20;man 09;want 0 50 90;long 99;river 20 26;wind 3;thing 4 1 9 99");
        Due.due("items", x.valley(0), 8);
        int[][] things = {{5, 30, 4, 7, -1, 0}, {4, 1, 9, 99, -1, 0}};
        for (int thing = 0; thing < 2; thing++) {
            for (int what = 0; what < 6; what++) {
                Due.due("thingOf(" + thing + ", " + what + ")", x.thingOf(thing, what), things[thing][what]);
            }
        }
        Due.due("man 0", x.manOf(0, 0), 20);
        Due.due("man 1", x.manOf(1, 0), 9);
        int[] want = {0, 50, 90};
        for (int what = 0; what < 3; what++) {
            Due.due("wantOf(0, " + what + ")", x.wantOf(0, what), want[what]);
        }
        int[] status = {2, 2, 1, 99, 20, 26, 3, 1, 0, 0};
        for (int what = 0; what < status.length; what++) {
            Due.due("status(" + what + ")", x.status(what), status[what]);
        }
    }

    private static void eachItem() {
        reads("", "thing 0 1 1 0", 1);
        reads("", "thing 06 99 09 60", 1);
        reads("", "man 1", 1);
        reads("", "man 99;man 01", 2);
        reads("thing 0 1 1 0", "want 0 0 0", 1);
        reads("thing 0 1 1 0", "want 00 60 99", 1);
        reads("", "long 1", 1);
        reads("", "long 99", 1);
        reads("", "river 0 60", 1);
        reads("", "river 7 07", 1);
        reads("", "wind 0;wind 09", 2);
    }

    private static void refusals() {
        NoFartherThanAThrow x = new NoFartherThanAThrow();
        x.thing(0, 1, 1, 0);
        x.show(1, 0);
        Due.due("no shelf", x.valley(-1), -1);
        Due.due("no shelf", x.valley(8), -1);
        Due.due("a thing", x.valley(1), -2);
        Due.due("nothing", x.valley(0), -3);
        Due.due("none yet", x.fault(), -1);
        Due.text(x, 0, 0, "man 1;x");
        Due.due("a fault", x.valley(0), -6);
        Due.due("its place", x.fault(), 6);
        Due.due("a thing", x.valley(1), -2);
        Due.due("no row was come to", x.fault(), 6);
        Due.text(x, 0, 0, "man 1");
        Due.due("no fault", x.valley(0), 1);
        Due.due("none of the latest", x.fault(), -1);
        Due.refusals(x, 2, 2, 1, 0, 0, 1, 0);
    }

    private static void letters() {
        fault("", "", 0);
        fault("", "x", 0);
        fault("", " man 1", 0);
        fault("", ";", 0);
        fault("", "Man 1", 0);
        fault("", "m", 1);
        fault("", "men 1", 1);
        fault("", "tiger", 1);
        fault("", "thinh 0 1 1 0", 4);
        fault("", "w", 1);
        fault("", "wx", 1);
        fault("", "wa", 2);
        fault("", "wiat", 2);
        fault("", "wand 1", 3);
        fault("", "wint 1", 3);
        fault("", "rived", 4);
        fault("", "river", 5);
        fault("", "longer", 4);
        fault("", "man", 3);
        fault("", "man ", 4);
        fault("", "man  1", 4);
        fault("", "wind ", 5);
        fault("", "wind x", 5);
        fault("", "river 0 ", 8);
        fault("", "river  0", 6);
        fault("", "thing 0 1 1 ", 12);
        fault("", "thing  1 1 0", 6);
        fault("thing 0 1 1 0", "want 0 1 ", 9);
        fault("", "man1", 3);
        fault("", "man;", 3);
        fault("", "man 1;", 6);
        fault("", "man 1 ", 5);
        fault("", "man 1 ;man 2", 5);
        fault("", "man 1; man 2", 6);
        fault("", "man 1;;man 2", 6);
        fault("", "man 1,man 2", 5);
        fault("", "man 12;man 3x", 12);
        fault("", "thing 0 1 1", 11);
        fault("", "thing 0 1 1 0 0", 13);
        fault("", "river 5", 7);
        fault("", "river 5;wind 3", 7);
        fault("", "man /", 4);
        fault("", "man :", 4);
        fault("", "man -1", 4);
        fault("", "man 1/", 5);
        fault("", "man 1:", 5);
    }

    private static void numbers() {
        fault("", "man 0", 4);
        fault("", "man 00;man 1", 4);
        fault("", "man 100", 6);
        fault("", "man 001", 4);
        fault("", "thing 7 1 1 1", 6);
        fault("", "thing 10 1 1 1", 6);
        fault("", "thing 7 x", 6);
        fault("", "thing 6 0 1 1", 8);
        fault("", "thing 6 99 0 1", 11);
        fault("", "thing 6 99 10 1", 11);
        fault("", "thing 6 99 9 61", 13);
        fault("", "thing 6 99 9 601", 15);
        fault("river 20 26", "thing 6 9 9 21", 12);
        fault("river 20 26", "thing 6 9 9 25", 12);
        reads("river 20 26", "thing 6 9 9 20;thing 6 9 9 26", 2);
        fault("", "want 0 1 1", 5);
        fault("thing 0 1 1 0", "want 1 1 1", 5);
        fault("thing 0 1 1 0", "want 0 61 1", 7);
        fault("thing 0 1 1 0;river 3 9", "want 0 5 1", 7);
        fault("thing 0 1 1 0", "want 0 60 100", 12);
        fault("", "long 0", 5);
        fault("", "long 100", 7);
        fault("thing 0 1 1 50", "long 49", 5);
        reads("thing 0 1 1 50", "long 50", 1);
        fault("thing 0 1 1 0;want 0 50 1", "long 49", 5);
        fault("river 0 50", "long 49", 5);
        reads("river 0 50", "long 50", 1);
        fault("", "river 5 4", 8);
        fault("", "river 61 61", 9);
        fault("", "river 5 61", 8);
        fault("thing 0 1 1 5", "river 4 6", 8);
        fault("thing 0 1 1 0;want 0 5 1", "river 04 06", 9);
        reads("thing 0 1 1 5;want 0 8 1", "river 5 8", 1);
        fault("", "wind 10", 5);
        fault("", "wind 9 ", 6);
    }

    private static void room() {
        String things = "thing 0 1 1 0;thing 0 1 1 0;thing 0 1 1 0;thing 0 1 1 0;"
            + "thing 0 1 1 0;thing 0 1 1 0;thing 0 1 1 0";
        reads(things, "thing 0 1 1 0", 1);
        things += ";thing 0 1 1 0";
        fault(things, "thing 0 1 1 0", 0);
        fault(things, "man 3;thing", 6);
        fault(things, "man 3;thingx", 6);
        fault(things, "man 3;thin", 10);
        fault(things, "man 3;thinx", 10);
        fault("", things + ";thing 0 1 1 0", 112);
        String people = "man 1;man 1;man 1;man 1;man 1;man 1;man 1;man 1";
        fault(people, "wind 1;man 1", 7);
        fault(people, "wind 1;ma", 9);
        fault(people, "wind 1;may", 9);
        fault("", people + ";man 1", 48);
        String wants = "thing 0 1 1 0;want 0 1 1;want 0 1 1;want 0 1 1;want 0 1 1";
        fault(wants, "want 0 1 1", 0);
        fault(wants, "wan", 3);
        reads(wants, "wind 1", 1);
        fault("", wants + ";want 0 1 1", 58);
    }

    private static void toldOver() {
        NoFartherThanAThrow x = new NoFartherThanAThrow();
        x.thing(0, 10, 1, 0);
        x.man(20);
        x.want(0, 9, 1);
        x.seed(77);
        x.carry(0, 0, 3);
        Due.text(x, 0, 0, "thing 1 2 3 4;man 5;want 1 6 7;want 0 8 9");
        Due.due("items", x.valley(0), 4);
        Due.due("things", x.status(0), 2);
        Due.due("people", x.status(1), 2);
        Due.due("wants", x.status(2), 3);
        Due.due("where it was", x.thingOf(0, 3), 3);
        Due.due("who had it", x.thingOf(0, 4), 0);
        Due.due("tired as they were", x.manOf(0, 1), 2);
        Due.due("the new thing", x.thingOf(1, 1), 2);
        Due.due("the new man", x.manOf(1, 0), 5);
        Due.due("the new want", x.wantOf(1, 0), 1);
        Due.due("the seed", x.status(7), 77);
        Due.due("the carries", x.status(9), 1);
        Due.due("again", x.valley(0), -6);
        Due.due("no room for the second want", x.fault(), 31);
        Due.due("things", x.status(0), 2);
        Due.due("people", x.status(1), 2);
    }

    private static void allOrNothing() {
        NoFartherThanAThrow x = new NoFartherThanAThrow();
        Due.text(x, 0, 0, "thing 0 1 1 9;man 5;want 0 8 9;long 50;wind 4;river 2 5;man 0");
        Due.due("a fault at the end", x.valley(0), -6);
        Due.due("its place", x.fault(), 60);
        int[] status = {0, 0, 0, 60, 0, 0, 0, 1, 0, 0};
        for (int what = 0; what < status.length; what++) {
            Due.due("status(" + what + ")", x.status(what), status[what]);
        }
    }

    private static void sorts() {
        NoFartherThanAThrow x = new NoFartherThanAThrow();
        String text = "man 7";
        x.row(0, 3, text.length());
        for (int i = 0; i < text.length(); i++) {
            x.set(0, i, (1L << 40) + text.charAt(i));
        }
        Due.due("the lowest bits of longs", x.valley(0), 1);
        x.row(0, 2, text.length());
        for (int i = 0; i < text.length(); i++) {
            x.set(0, i, 256 + text.charAt(i));
        }
        Due.due("ints as they are", x.valley(0), -6);
        Due.due("no letter", x.fault(), 0);
        StringBuilder longest = new StringBuilder("wind 1");
        while (longest.length() < 153) {
            longest.append(";wind 2");
        }
        longest.append(";man 5");
        Due.due("160 letters", longest.length() <= 160 ? 1 : 0, 1);
        Due.text(x, 0, 1, longest.toString());
        Due.due("many items", x.valley(0), 23);
    }
}
