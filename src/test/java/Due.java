/** What the tests share: counting wrong answers, and rows of letters or numbers put on a shelf. */
final class Due {
    private static int calls = 0;
    private static int wrong = 0;

    private Due() {
    }

    static void due(String call, long got, long want) {
        calls++;
        if (got != want) {
            wrong++;
            System.out.println(call + " answered " + got + ", due is " + want);
        }
    }

    static int calls() {
        return calls;
    }

    static void text(NoFartherThanAThrow x, int s, int sort, String letters) {
        due("row for a text", x.row(s, sort, letters.length()), 1);
        for (int i = 0; i < letters.length(); i++) {
            due("letter " + i, x.set(s, i, letters.charAt(i)), 1);
        }
    }

    static void numbers(NoFartherThanAThrow x, int s, int sort, long... v) {
        due("row for numbers", x.row(s, sort, v.length), 1);
        for (int i = 0; i < v.length; i++) {
            due("number " + i, x.set(s, i, v[i]), 1);
        }
    }

    static void elements(NoFartherThanAThrow x, int s, long... v) {
        for (int i = 0; i < v.length; i++) {
            due("element(" + s + ", " + i + ")", x.element(s, i), v[i]);
        }
        due("element behind the row", x.element(s, v.length), 0);
    }

    /** How often each of the refusals -1 to -7 was counted. */
    static void refusals(NoFartherThanAThrow x, int... counts) {
        for (int i = 0; i < counts.length; i++) {
            due("status(" + (11 + i) + ")", x.status(11 + i), counts[i]);
        }
    }

    static void finish() {
        System.out.println(wrong == 0 ? "all " + calls + " answers are as due" : wrong + " answers are not as due");
        if (wrong != 0) {
            System.exit(1);
        }
    }
}
