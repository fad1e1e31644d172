import java.util.ArrayList;
import java.util.List;
import java.util.Random;

/** Promises 24 to 36 against slow answers that try everything out, in valleys by a fixed seed. */
public final class OracleTest {
    private static final Random RANDOM = new Random(20261119L);

    private final NoFartherThanAThrow x = new NoFartherThanAThrow();
    private final int things;
    private final int people;
    private final int wants;

    private OracleTest(int mostPeople) {
        x.ask(0, 20 + RANDOM.nextInt(80));
        x.ask(1, RANDOM.nextInt(10));
        int from = RANDOM.nextInt(30);
        x.river(from, from + RANDOM.nextInt(20));
        for (int i = 0; i < 3; i++) {
            x.thing(RANDOM.nextInt(7), 1 + RANDOM.nextInt(60), 1 + RANDOM.nextInt(9), RANDOM.nextInt(25));
        }
        int some = RANDOM.nextInt(mostPeople + 1);
        for (int i = 0; i < some; i++) {
            x.man(1 + RANDOM.nextInt(RANDOM.nextBoolean() ? 99 : 20));
        }
        for (int i = 0; i < 4; i++) {
            x.want(RANDOM.nextInt(3), RANDOM.nextInt(60), RANDOM.nextInt(4) * 7);
        }
        for (int i = 0; i < 6; i++) {
            x.carry(RANDOM.nextInt(8), RANDOM.nextInt(3), RANDOM.nextInt(9) - 4);
        }
        things = x.status(0);
        people = x.status(1);
        wants = x.status(2);
    }

    public static void main(String[] args) {
        for (int i = 0; i < 250; i++) {
            OracleTest t = new OracleTest(5);
            for (int thing = 0; thing < t.things; thing++) {
                t.sets(thing);
                t.handovers(thing);
                t.mills(thing);
                t.casts(thing);
            }
            t.sharing();
        }
        for (int i = 0; i < 3; i++) {
            new OracleTest(8).sharing();
        }
        Due.finish();
    }

    private boolean inRiver(int p) {
        return p > x.status(4) && p < x.status(5);
    }

    private int at(int thing) {
        return x.thingOf(thing, 3);
    }

    private int onward(int p, int far, int wanted) {
        int q = Math.min(p + far, wanted);
        while (q > p && inRiver(q)) {
            q--;
        }
        return q;
    }

    /** FAR again, by doubles of the document's words; man's STRENGTH and TIRED given. */
    private int far(int thing, int left) {
        int weight = x.thingOf(thing, 1);
        int extra = x.thingOf(thing, 2);
        int wind = x.status(6);
        int can = (int) Math.floor(left * 10.0 / weight);
        int heavy = Math.min(40, (int) Math.floor(can / 2.0));
        switch (x.thingOf(thing, 0)) {
            case 0: return Math.min(40, can);
            case 1: return heavy;
            case 2: return Math.min(40, can) + wind;
            case 3: return (int) Math.floor((Math.min(40, can) + wind) / 2.0);
            case 4: return Math.min(5, can);
            case 5: return Math.min(40, (int) (left * 10 / Math.ceil(weight / (double) extra)) / 2);
            default: return heavy + extra;
        }
    }

    private int left(int man, int more) {
        return Math.max(0, x.manOf(man, 0) + more - x.manOf(man, 1));
    }

    /** All orders of a set, by numbers. */
    private List<List<Integer>> orders(int set) {
        List<List<Integer>> all = new ArrayList<>();
        if (set == 0) {
            all.add(new ArrayList<>());
        }
        for (int man = 0; man < people; man++) {
            if ((set >> man & 1) != 0) {
                for (List<Integer> rest : orders(set & ~(1 << man))) {
                    List<Integer> order = new ArrayList<>(rest);
                    order.add(0, man);
                    all.add(order);
                }
            }
        }
        return all;
    }

    private int end(int thing, List<Integer> order, int wanted, int man, int more) {
        int p = at(thing);
        for (int one : order) {
            p = onward(p, far(thing, left(one, one == man ? more : 0)), wanted);
        }
        return p;
    }

    private int end(int thing, int set, int wanted, int man, int more) {
        int farthest = 0;
        for (List<Integer> order : orders(set)) {
            farthest = Math.max(farthest, end(thing, order, wanted, man, more));
        }
        return farthest;
    }

    private void sets(int thing) {
        int step = RANDOM.nextInt(70);
        boolean may = step <= x.status(3) && !inRiver(step) && step > at(thing);
        int fewest = -5;
        for (int set = 0; set < 1 << people; set++) {
            Due.due("end", x.end(thing, set), end(thing, set, x.status(3), -1, 0));
            weakest(thing, set);
            if (!may) {
                Due.due("does", x.does(thing, set, step), -6);
                continue;
            }
            boolean does = end(thing, set, step, -1, 0) == step;
            Due.due("does", x.does(thing, set, step), does ? 1 : 0);
            order(thing, set, step);
            if (does && (fewest < 0 || Integer.bitCount(set) < Integer.bitCount(fewest))) {
                fewest = set;
            }
            if (set < 8 || RANDOM.nextInt(8) == 0) {
                helps(thing, set, step, does);
            }
        }
        Due.due("fewest", x.fewest(thing, step), may ? fewest : -6);
    }

    private void order(int thing, int set, int step) {
        List<Integer> due = null;
        for (List<Integer> order : orders(set)) {
            if (due == null && end(thing, order, step, -1, 0) == step) {
                due = order;
            }
        }
        for (int i = 0; i <= Integer.bitCount(set); i++) {
            int one = due == null || i >= due.size() ? -5 : due.get(i);
            Due.due("order", x.order(thing, set, step, i), one);
        }
    }

    private void weakest(int thing, int set) {
        int least = -5;
        int most = -1;
        for (int man = 0; man < people; man++) {
            if ((set >> man & 1) != 0) {
                int end = end(thing, set & ~(1 << man), x.status(3), -1, 0);
                if (end > most) {
                    most = end;
                    least = man;
                }
            }
        }
        Due.due("weakest", x.weakest(thing, set), least);
    }

    private void helps(int thing, int set, int step, boolean does) {
        for (int man = 0; man < people; man++) {
            int due = -1;
            if ((set >> man & 1) == 0) {
                due = -11;
            } else if (does) {
                due = -16;
            } else {
                for (int more = 0; more <= 99 && due < 0; more++) {
                    due = end(thing, set, step, man, more) == step ? more : -1;
                }
            }
            Due.due("helps", x.helps(thing, set, step, man), due);
        }
    }

    /** All places that a THING may be at after so many carries, with who had it last, by single steps. */
    private void handovers(int thing) {
        int step = at(thing) + 1 + RANDOM.nextInt(40);
        if (step > x.status(3) || inRiver(step)) {
            Due.due("handovers", x.handovers(thing, step), -16);
            return;
        }
        boolean[][] can = new boolean[people + 1][100];
        int last = x.thingOf(thing, 4);
        can[last < 0 ? people : last][at(thing)] = true;
        int due = -1;
        for (int times = 1; times <= 99 && due < 0; times++) {
            boolean[][] next = new boolean[people + 1][100];
            for (int had = 0; had <= people; had++) {
                for (int p = 0; p < 100; p++) {
                    for (int man = 0; can[had][p] && man < people; man++) {
                        for (int d = 1; man != had && d <= far(thing, left(man, 0)) && p + d < 100; d++) {
                            next[man][p + d] = true;
                        }
                    }
                }
            }
            can = next;
            for (int man = 0; man < people; man++) {
                due = can[man][step] ? times : due;
            }
        }
        Due.due("handovers", x.handovers(thing, step), due);
    }

    private void mills(int thing) {
        int strength = 1 + RANDOM.nextInt(99);
        int step = at(thing) + 1 + RANDOM.nextInt(40);
        int due = -1;
        int p = at(thing);
        for (int n = 1; n <= 200 && due < 0; n++) {
            p = onward(p, far(thing, strength), step);
            due = p == step ? n : -1;
        }
        boolean may = step <= x.status(3) && !inRiver(step);
        Due.due("mill", x.mill(thing, step, strength), may ? due : -16);
    }

    private void casts(int thing) {
        for (int man = 0; man < people; man++) {
            int far = far(thing, left(man, 0));
            Due.due("far", x.far(man, thing), far);
            int best = -1;
            int most = 0;
            for (int d = 1; d <= 40; d++) {
                int to = at(thing) + d;
                int caught = d > 2 * far ? 0 : Math.max(0, 10 - d / 4);
                int worth = 0;
                for (int want = 0; want < wants; want++) {
                    boolean isOne = x.wantOf(want, 0) == thing && x.wantOf(want, 1) == to;
                    worth += isOne ? x.wantOf(want, 2) : 0;
                }
                int mean = to > x.status(3) || inRiver(to) ? 0 : caught * worth / 10;
                Due.due("caught", x.caught(man, thing, d), caught);
                Due.due("mean", x.mean(man, thing, d), mean);
                if (mean > most) {
                    most = mean;
                    best = d;
                }
            }
            Due.due("cast", x.cast(man, thing), best);
        }
    }

    /** Tries all ways to give, in the order by numbers; the sets that do are asked of the class. */
    private void sharing() {
        boolean[][] does = new boolean[wants][1 << people];
        int always = 0;
        for (int want = 0; want < wants; want++) {
            int thing = x.wantOf(want, 0);
            int step = x.wantOf(want, 1);
            always += step == at(thing) ? x.wantOf(want, 2) : 0;
            for (int set = 0; set < 1 << people; set++) {
                does[want][set] = step > at(thing) && x.does(thing, set, step) == 1;
            }
        }
        int ways = (int) Math.pow(wants + 1, people);
        int most = -1;
        int first = 0;
        for (int way = 0; way < ways; way++) {
            int[] sets = new int[wants + 1];
            for (int man = people - 1, w = way; man >= 0; man--, w /= wants + 1) {
                sets[w % (wants + 1)] |= 1 << man;
            }
            int worth = always;
            for (int want = 0; want < wants; want++) {
                worth += does[want][sets[want + 1]] ? x.wantOf(want, 2) : 0;
            }
            if (worth > most) {
                most = worth;
                first = way;
            }
        }
        Due.due("shared", x.shared(), most);
        for (int man = people - 1; man >= 0; man--) {
            Due.due("given " + man, x.given(man), first % (wants + 1) - 1);
            first /= wants + 1;
        }
    }
}
