/** Promises 29 and 30: PEOPLE given to WANTS. */
public final class SharedTest {
    public static void main(String[] args) {
        nobody();
        fewHands();
        firstByNumbers();
        thereOrBehind();
        oneThing();
        refusals();
        most();
        Due.finish();
    }

    private static void given(NoFartherThanAThrow x, int worth, int... to) {
        Due.due("shared", x.shared(), worth);
        for (int man = 0; man < to.length; man++) {
            Due.due("given(" + man + ")", x.given(man), to[man]);
        }
    }

    private static void nobody() {
        NoFartherThanAThrow x = new NoFartherThanAThrow();
        given(x, 0);
        x.thing(0, 10, 1, 0);
        x.want(0, 5, 50);
        given(x, 0);
        x.man(4);
        given(x, 0, -1);
        x.man(5);
        given(x, 50, -1, 0);
        x.want(0, 0, 7);
        given(x, 57, -1, 0);
    }

    private static void fewHands() {
        NoFartherThanAThrow x = new NoFartherThanAThrow();
        x.thing(0, 10, 1, 0);
        x.thing(0, 10, 1, 0);
        x.man(5);
        x.man(5);
        x.man(5);
        x.want(0, 10, 30);
        x.want(1, 10, 31);
        given(x, 31, -1, 1, 1);
        x.man(5);
        given(x, 61, 0, 0, 1, 1);
        x.want(1, 5, 40);
        // 30 and 40, or 31 and 40: 71 of three
        given(x, 71, -1, 1, 1, 2);
        x.want(0, 60, 99);
        given(x, 71, -1, 1, 1, 2);
    }

    private static void firstByNumbers() {
        NoFartherThanAThrow x = new NoFartherThanAThrow();
        x.thing(0, 10, 1, 0);
        x.man(9);
        x.man(3);
        x.man(6);
        x.want(0, 9, 10);
        given(x, 10, -1, 0, 0);
        x.want(0, 3, 10);
        given(x, 20, 0, -1, 1);
        x.want(0, 2, 0);
        given(x, 20, 0, -1, 1);
        x.want(0, 1, 10);
        given(x, 30, 0, 1, 3);
        NoFartherThanAThrow y = new NoFartherThanAThrow();
        y.thing(0, 10, 1, 0);
        y.man(1);
        y.want(0, 2, 9);
        y.want(0, 1, 0);
        given(y, 0, -1);
        y.want(0, 1, 1);
        given(y, 1, 2);
    }

    private static void thereOrBehind() {
        NoFartherThanAThrow x = new NoFartherThanAThrow();
        x.thing(0, 10, 1, 20);
        x.man(50);
        x.want(0, 20, 40);
        given(x, 40, -1);
        x.want(0, 19, 41);
        given(x, 40, -1);
        x.want(0, 20, 2);
        given(x, 42, -1);
        x.want(0, 21, 3);
        given(x, 45, 3);
        x.carry(0, 0, -1);
        given(x, 81, 0);
        x.carry(0, 0, -1);
        given(x, 81, 0);
    }

    private static void oneThing() {
        NoFartherThanAThrow x = new NoFartherThanAThrow();
        x.thing(4, 10, 1, 0);
        x.man(10);
        x.man(10);
        x.man(10);
        x.want(0, 5, 10);
        x.want(0, 5, 10);
        x.want(0, 10, 19);
        given(x, 29, 0, 2, 2);
        x.man(10);
        given(x, 39, 0, 1, 2, 2);
        NoFartherThanAThrow y = new NoFartherThanAThrow();
        y.thing(0, 10, 1, 0);
        y.man(4);
        y.man(4);
        y.want(0, 8, 5);
        y.river(3, 8);
        given(y, 0, -1, -1);
        y.river(4, 8);
        given(y, 5, 0, 0);
    }

    private static void refusals() {
        NoFartherThanAThrow x = new NoFartherThanAThrow();
        Due.due("nobody", x.given(0), -11);
        Due.due("-1", x.given(-1), -11);
        x.man(3);
        Due.due("8", x.given(8), -11);
        Due.due("1", x.given(1), -11);
        Due.due("no want", x.given(0), -1);
        x.thing(0, 10, 1, 0);
        x.want(0, 3, 1);
        Due.due("without shared() ahead", x.given(0), 0);
        Due.due("far", x.given(Integer.MAX_VALUE), -11);
        Due.refusals(x, 5, 0, 0, 0, 0, 0, 0);
    }

    private static void most() {
        NoFartherThanAThrow x = new NoFartherThanAThrow();
        x.thing(0, 10, 1, 0);
        for (int i = 0; i < 8; i++) {
            x.man(30);
        }
        for (int i = 0; i < 4; i++) {
            x.want(0, 60, 99);
        }
        given(x, 396, 0, 0, 1, 1, 2, 2, 3, 3);
        NoFartherThanAThrow z = new NoFartherThanAThrow();
        z.thing(0, 10, 1, 0);
        for (int i = 0; i < 8; i++) {
            z.man(1);
        }
        z.want(0, 9, 99);
        z.want(0, 10, 99);
        z.want(0, 11, 99);
        z.want(0, 8, 1);
        given(z, 1, 3, 3, 3, 3, 3, 3, 3, 3);
        NoFartherThanAThrow y = new NoFartherThanAThrow();
        y.thing(0, 10, 1, 60);
        for (int i = 0; i < 4; i++) {
            y.want(0, 60, 99);
        }
        given(y, 396);
    }
}
