import java.util.ArrayList;
import java.util.Arrays;
import java.util.Comparator;
import java.util.List;
import java.util.TreeSet;

/**
 * The document told once more, as plainly and slowly as can be and without a look at the class: what ModelTest holds
 * it against. Calls have the names of the face; a refusal is a Refused that call() of ModelTest turns into its number.
 */
final class Model {
    static final int NONE = -1;

    static final class Refused extends RuntimeException {
        private static final long serialVersionUID = 1L;
        final int number;

        Refused(int number) {
            super(null, null, false, false);
            this.number = number;
        }
    }

    /** A KIND, its FAR and its bodies: under it are those that extend it. */
    private static class Thing implements Cloneable {
        int weight;
        int extra;
        int step;
        int last = NONE;
        boolean isBroken;

        int kind() {
            return 0;
        }

        int can(int strength, int w) {
            return (int) Math.floor(strength * 10.0 / w);
        }

        int far(int strength, int wind) {
            return Math.min(40, can(strength, weight));
        }

        int goes(Model m, int x) {
            m.trace.add(10);
            return x + m.things.indexOf(this);
        }

        int rests(Model m, int x) {
            m.trace.add(11);
            return goes(m, x) * 2;
        }

        int falls(Model m, int x) {
            m.trace.add(12);
            int rests = rests(m, x);
            return rests ^ goes(m, x - weight);
        }

        Thing copy() {
            try {
                return (Thing) clone();
            } catch (CloneNotSupportedException e) {
                throw new IllegalStateException(e);
            }
        }
    }

    private static class Heavy extends Thing {
        @Override int kind() {
            return 1;
        }

        @Override int far(int strength, int wind) {
            return Math.min(40, can(strength, weight) / 2);
        }

        @Override int goes(Model m, int x) {
            m.trace.add(20);
            return super.goes(m, x) + weight;
        }
    }

    private static class Light extends Thing {
        @Override int kind() {
            return 2;
        }

        @Override int far(int strength, int wind) {
            return super.far(strength, wind) + wind;
        }

        @Override int rests(Model m, int x) {
            m.trace.add(50);
            return -super.rests(m, x);
        }
    }

    private static final class Feather extends Light {
        @Override int kind() {
            return 3;
        }

        @Override int far(int strength, int wind) {
            return super.far(strength, wind) / 2;
        }

        @Override int rests(Model m, int x) {
            m.trace.add(60);
            return super.rests(m, x) ^ 5;
        }
    }

    private static final class Glass extends Thing {
        @Override int kind() {
            return 4;
        }

        @Override int far(int strength, int wind) {
            return Math.min(5, super.far(strength, wind));
        }

        @Override int goes(Model m, int x) {
            m.trace.add(70);
            return super.goes(m, x) * 2;
        }

        @Override int falls(Model m, int x) {
            m.trace.add(71);
            return super.falls(m, x - weight);
        }
    }

    private static final class Parted extends Heavy {
        @Override int kind() {
            return 5;
        }

        @Override int far(int strength, int wind) {
            return Math.min(40, can(strength, (int) Math.ceil(weight / (double) extra)) / 2);
        }

        @Override int rests(Model m, int x) {
            m.trace.add(30);
            return super.rests(m, x) * 3;
        }
    }

    private static final class Round extends Heavy {
        @Override int kind() {
            return 6;
        }

        @Override int far(int strength, int wind) {
            return super.far(strength, wind) + extra;
        }

        @Override int goes(Model m, int x) {
            m.trace.add(40);
            return super.goes(m, x + 1);
        }

        @Override int falls(Model m, int x) {
            m.trace.add(41);
            return super.falls(m, x) - m.things.indexOf(this);
        }
    }

    private static final Class<?>[] KINDS = {Thing.class, Heavy.class, Light.class, Feather.class, Glass.class,
        Parted.class, Round.class};

    private static Thing make(int kind, int weight, int extra, int step) {
        Thing[] one = {new Thing(), new Heavy(), new Light(), new Feather(), new Glass(), new Parted(), new Round()};
        Thing t = one[kind];
        t.weight = weight;
        t.extra = extra;
        t.step = step;
        return t;
    }

    private static final class Man {
        final int strength;
        int tired;

        Man(int strength, int tired) {
            this.strength = strength;
            this.tired = tired;
        }

        int left() {
            return Math.max(0, strength - tired);
        }
    }

    private static final class Want {
        final int thing;
        final int step;
        final int worth;

        Want(int thing, int step, int worth) {
            this.thing = thing;
            this.step = step;
            this.worth = worth;
        }
    }

    private List<Thing> things = new ArrayList<>();
    private List<Man> people = new ArrayList<>();
    private List<Want> wants = new ArrayList<>();
    private int length = 60;
    private int from = 0;
    private int to = 0;
    private int wind = 0;
    private int seed = 1;
    private int inTruth = 0;

    private List<Integer> trace = new ArrayList<>();
    private int fault = NONE;
    private Model image = null;
    final int[] refusals = new int[8];
    /** What SHELVES hold: null, an Integer (a THING's number), a Row. */
    private Object[] shelves = new Object[8];

    private static final class Row {
        final int sort;
        final long[] v;

        Row(int sort, int n) {
            this.sort = sort;
            this.v = new long[n];
        }

        int[] ints() {
            return Arrays.stream(v).mapToInt(e -> (int) e).toArray();
        }
    }

    private static void unless(boolean isSo, int number) {
        if (!isSo) {
            throw new Refused(number);
        }
    }

    static boolean within(int v, int least, int most) {
        return v >= least && v <= most;
    }

    private boolean inRiver(int p) {
        return from < p && p < to;
    }

    private boolean isStep(int p) {
        return within(p, 0, length) && !inRiver(p);
    }

    private boolean isThing(int t) {
        return within(t, 0, things.size() - 1);
    }

    private boolean isMan(int m) {
        return within(m, 0, people.size() - 1);
    }

    private void both(int man, int thing) {
        unless(isMan(man) && isThing(thing), -1);
    }

    private void shelf(int s) {
        unless(within(s, 0, 7), -1);
    }

    private Row rowAt(int s) {
        shelf(s);
        unless(!(shelves[s] instanceof Integer), -2);
        unless(shelves[s] != null, -3);
        return (Row) shelves[s];
    }

    // ---- the face ----

    int row(int s, int sort, int n) {
        shelf(s);
        unless(n >= 0, -4);
        unless(within(sort, 0, 3), -6);
        unless(n <= 160, -7);
        shelves[s] = new Row(sort, n);
        return 1;
    }

    int set(int s, int i, long v) {
        Row r = rowAt(s);
        unless(within(i, 0, r.v.length - 1), -5);
        int[] bits = {8, 16, 32, 64};
        int drop = 64 - bits[r.sort];
        r.v[i] = v << drop >> drop;
        return 1;
    }

    int copy(int p, int q, int i, int j, int n) {
        shelf(p);
        shelf(q);
        Object a = shelves[p];
        Object b = shelves[q];
        boolean isThing = a instanceof Integer || b instanceof Integer;
        boolean areTwo = a instanceof Row && b instanceof Row && ((Row) a).sort != ((Row) b).sort;
        unless(!isThing && !areTwo, -2);
        unless(a != null && b != null, -3);
        unless(n >= 0, -4);
        long[] source = ((Row) a).v;
        long[] goal = ((Row) b).v;
        unless(i >= 0 && j >= 0 && (long) i + n <= source.length && (long) j + n <= goal.length, -5);
        long[] ahead = Arrays.copyOfRange(source, i, i + n);
        for (int k = 0; k < n; k++) {
            goal[j + k] = ahead[k];
        }
        return 1;
    }

    long element(int s, int i) {
        if (!within(s, 0, 7) || !(shelves[s] instanceof Row)) {
            return 0;
        }
        long[] v = ((Row) shelves[s]).v;
        return within(i, 0, v.length - 1) ? v[i] : 0;
    }

    int show(int s, int thing) {
        shelf(s);
        unless(thing == NONE || isThing(thing), -1);
        shelves[s] = thing == NONE ? null : (Integer) thing;
        return thing == NONE ? 0 : 1;
    }

    int holds(int s) {
        if (!within(s, 0, 7) || shelves[s] == null) {
            return NONE;
        }
        return shelves[s] instanceof Row ? 100 + ((Row) shelves[s]).sort : (Integer) shelves[s];
    }

    int says(int s, int kind) {
        shelf(s);
        unless(within(kind, 0, 6), -1);
        unless(!(shelves[s] instanceof Row), -2);
        unless(shelves[s] != null, -3);
        Thing t = things.get((Integer) shelves[s]);
        unless(KINDS[kind].isInstance(t), -2);
        switch (kind) {
            case 0: return t.weight;
            case 2:
            case 3: return t.far(9, wind);
            case 4: return t.isBroken ? 1 : 0;
            default: return t.extra;
        }
    }

    int thing(int kind, int weight, int extra, int step) {
        unless(within(kind, 0, 6), -1);
        unless(within(weight, 1, 99) && within(extra, 1, 9) && isStep(step), -6);
        unless(things.size() < 8, -7);
        things.add(make(kind, weight, extra, step));
        return things.size() - 1;
    }

    int man(int strength) {
        unless(within(strength, 1, 99), -6);
        unless(people.size() < 8, -7);
        people.add(new Man(strength, 0));
        return people.size() - 1;
    }

    int men(int s, int i, int n) {
        int[] v = rowAt(s).ints();
        unless(n >= 0, -4);
        unless(i >= 0 && (long) i + n <= v.length, -5);
        int came = 0;
        for (int k = i; k < i + n; k++) {
            if (!within(v[k], 1, 99) || people.size() == 8) {
                break;
            }
            people.add(new Man(v[k], 0));
            came++;
        }
        return came;
    }

    int want(int thing, int step, int worth) {
        unless(isThing(thing), -1);
        unless(isStep(step) && within(worth, 0, 99), -6);
        unless(wants.size() < 4, -7);
        wants.add(new Want(thing, step, worth));
        return wants.size() - 1;
    }

    private List<Integer> told() {
        List<Integer> steps = new ArrayList<>();
        things.forEach(t -> steps.add(t.step));
        wants.forEach(w -> steps.add(w.step));
        return steps;
    }

    private boolean isLong(int n) {
        return within(n, 1, 99) && n >= to && told().stream().allMatch(p -> p <= n);
    }

    private boolean isRiver(int f, int t) {
        return within(f, 0, 99) && within(t, f, 99) && t <= length && told().stream().noneMatch(p -> p > f && p < t);
    }

    int ask(int what, int v) {
        unless(what == 0 ? isLong(v) : what == 1 && within(v, 0, 9), -6);
        int was = what == 0 ? length : wind;
        if (what == 0) {
            length = v;
        } else {
            wind = v;
        }
        return was;
    }

    int river(int f, int t) {
        unless(isRiver(f, t), -6);
        from = f;
        to = t;
        return 1;
    }

    int thingOf(int thing, int what) {
        unless(isThing(thing) && within(what, 0, 5), -5);
        Thing t = things.get(thing);
        return new int[] {t.kind(), t.weight, t.extra, t.step, t.last, t.isBroken ? 1 : 0}[what];
    }

    int manOf(int man, int what) {
        unless(isMan(man) && within(what, 0, 1), -5);
        return what == 0 ? people.get(man).strength : people.get(man).tired;
    }

    int wantOf(int want, int what) {
        unless(within(want, 0, wants.size() - 1) && within(what, 0, 3), -5);
        Want w = wants.get(want);
        return new int[] {w.thing, w.step, w.worth, things.get(w.thing).step == w.step ? 1 : 0}[what];
    }

    // ---- texts: all words that still fit are kept side by side, letter by letter ----

    int valley(int s) {
        int[] text = rowAt(s).ints();
        Model tried = copy();
        int[] place = {0};
        int items = tried.tell(text, place);
        fault = items < 0 ? place[0] : NONE;
        unless(items >= 0, -6);
        takeOver(tried);
        return items;
    }

    private static final String[] FORMS = {"thing ####", "man #", "want ###", "long #", "river ##", "wind #"};

    /** How many ITEMS; -1 with the FAULT in place[0]. */
    private int tell(int[] text, int[] place) {
        int items = 0;
        do {
            if (items > 0) {
                if (text[place[0]] != ';') {
                    return -1;
                }
                place[0]++;
            }
            if (!tellItem(text, place)) {
                return -1;
            }
            items++;
        } while (place[0] < text.length);
        return items;
    }

    private boolean tellItem(int[] text, int[] place) {
        int start = place[0];
        List<String> fit = new ArrayList<>(List.of(FORMS));
        int letters = 0;
        while (fit.size() != 1 || fit.get(0).charAt(letters) != ' ') {
            int at = letters;
            int sign = place[0] < text.length ? text[place[0]] : NONE;
            fit.removeIf(f -> f.charAt(at) != sign);
            if (fit.isEmpty()) {
                return false;
            }
            letters++;
            place[0]++;
        }
        String form = fit.get(0);
        char word = "tmwlrd".charAt(List.of(FORMS).indexOf(form));
        boolean hasRoom = word == 't' ? things.size() < 8 : word == 'm' ? people.size() < 8
            : word != 'w' || wants.size() < 4;
        if (!hasRoom) {
            place[0] = start;
            return false;
        }
        return tellNumbers(text, place, word, form.length() - letters - 1);
    }

    private boolean tellNumbers(int[] text, int[] place, char word, int count) {
        int[] v = new int[count];
        for (int n = 0; n < count; n++) {
            if (place[0] >= text.length || text[place[0]] != ' ') {
                return false;
            }
            place[0]++;
            int first = place[0];
            String digits = "";
            while (digits.length() < 2 && place[0] < text.length && within(text[place[0]], '0', '9')) {
                digits += (char) text[place[0]];
                place[0]++;
            }
            if (digits.isEmpty()) {
                return false;
            }
            v[n] = Integer.parseInt(digits);
            if (!mayBe(word, v, n)) {
                place[0] = first;
                return false;
            }
        }
        switch (word) {
            case 't': thing(v[0], v[1], v[2], v[3]); break;
            case 'm': man(v[0]); break;
            case 'w': want(v[0], v[1], v[2]); break;
            case 'l': length = v[0]; break;
            case 'r': river(v[0], v[1]); break;
            default: wind = v[0]; break;
        }
        return true;
    }

    private boolean mayBe(char word, int[] v, int n) {
        switch (word) {
            case 't': return n == 0 ? v[n] <= 6 : n == 1 ? v[n] >= 1 : n == 2 ? within(v[n], 1, 9) : isStep(v[n]);
            case 'm': return v[n] >= 1;
            case 'w': return n == 0 ? isThing(v[n]) : n != 1 || isStep(v[n]);
            case 'l': return isLong(v[n]);
            case 'r': return n == 0 || isRiver(v[0], v[1]);
            default: return v[n] <= 9;
        }
    }

    int fault() {
        return fault;
    }

    // ---- carrying ----

    private int far(Man m, Thing t) {
        return t.far(m.left(), wind);
    }

    int far(int man, int thing) {
        both(man, thing);
        return far(people.get(man), things.get(thing));
    }

    int wrong(int man, int thing, int d) {
        both(man, thing);
        Thing t = things.get(thing);
        long end = t.step + (long) d;
        List<Boolean> holds = List.of(t.last == man, end < 0 || end > length,
            end >= 0 && end <= length && inRiver((int) end), d == 0 || Math.abs((long) d) > far(man, thing), t.isBroken);
        return holds.indexOf(true) + 1;
    }

    private void tire(Man m, Thing t) {
        m.tired = Math.min(99, m.tired + t.weight / 10 + 1);
        inTruth++;
    }

    int carry(int man, int thing, int d) {
        unless(wrong(man, thing, d) == 0, -6);
        Thing t = things.get(thing);
        t.step += d;
        t.last = man;
        tire(people.get(man), t);
        return t.step;
    }

    int judge(int thing, int s, int n) {
        unless(isThing(thing), -1);
        int[] v = rowAt(s).ints();
        unless(n >= 0, -4);
        unless(v.length >= 2L * n, -5);
        unless(n <= 40, -6);
        Model told = copy();
        for (int k = 0; k < n; k++) {
            try {
                told.carry(v[2 * k], thing, v[2 * k + 1]);
            } catch (Refused e) {
                return k;
            }
        }
        return NONE;
    }

    // ---- standing rows: all places that some order ends at ----

    private int onward(int p, int far, int wanted) {
        int q = p + far;
        if (inRiver(q)) {
            q = Math.max(p, from);
        }
        return Math.min(q, wanted);
    }

    private TreeSet<Integer> endsOf(int p, int set, int[] fars, int wanted) {
        TreeSet<Integer> places = new TreeSet<>();
        if (set == 0) {
            places.add(p);
            return places;
        }
        TreeSet<Integer> seen = new TreeSet<>();
        for (int m = 0; m < fars.length; m++) {
            // two of the same FAR are as good as one another
            if ((set >> m & 1) == 1 && seen.add(fars[m])) {
                places.addAll(endsOf(onward(p, fars[m], wanted), set - (1 << m), fars, wanted));
            }
        }
        return places;
    }

    private int[] fars(int thing) {
        return people.stream().mapToInt(m -> far(m, things.get(thing))).toArray();
    }

    private void isSet(int thing, int set) {
        unless(isThing(thing) && set >= 0 && set < 1 << people.size(), -1);
    }

    private void isFarther(int thing, int step) {
        unless(isStep(step) && step > things.get(thing).step, -6);
    }

    int end(int thing, int set) {
        isSet(thing, set);
        return endsOf(things.get(thing).step, set, fars(thing), length).last();
    }

    private boolean isDoing(int thing, int set, int step) {
        return endsOf(things.get(thing).step, set, fars(thing), step).contains(step);
    }

    int does(int thing, int set, int step) {
        isSet(thing, set);
        isFarther(thing, step);
        return isDoing(thing, set, step) ? 1 : 0;
    }

    int fewest(int thing, int step) {
        unless(isThing(thing), -1);
        isFarther(thing, step);
        List<Integer> sets = new ArrayList<>();
        for (int set = 0; set < 1 << people.size(); set++) {
            if (isDoing(thing, set, step)) {
                sets.add(set);
            }
        }
        sets.sort(Comparator.<Integer>comparingInt(Integer::bitCount).thenComparingInt(set -> set));
        unless(!sets.isEmpty(), -5);
        return sets.get(0);
    }

    private boolean order(int p, int set, int[] fars, int step, List<Integer> row) {
        if (set == 0) {
            return p == step;
        }
        for (int m = 0; m < fars.length; m++) {
            if ((set >> m & 1) == 1) {
                row.add(m);
                if (order(onward(p, fars[m], step), set - (1 << m), fars, step, row)) {
                    return true;
                }
                row.remove(row.size() - 1);
            }
        }
        return false;
    }

    int order(int thing, int set, int step, int i) {
        isSet(thing, set);
        isFarther(thing, step);
        unless(isDoing(thing, set, step), -5);
        List<Integer> row = new ArrayList<>();
        order(things.get(thing).step, set, fars(thing), step, row);
        unless(within(i, 0, row.size() - 1), -5);
        return row.get(i);
    }

    int handovers(int thing, int step) {
        unless(isThing(thing), -1);
        isFarther(thing, step);
        Thing t = things.get(thing);
        int[] fars = fars(thing);
        // the least times by which it can be at a place, by who had it last; their number for nobody
        int[][] times = new int[100][people.size() + 1];
        for (int[] row : times) {
            Arrays.fill(row, 1000);
        }
        times[t.step][t.last == NONE ? people.size() : t.last] = 0;
        int best = 1000;
        for (int p = t.step; p < step; p++) {
            for (int had = 0; had <= people.size(); had++) {
                for (int m = 0; m < people.size(); m++) {
                    for (int d = 1; m != had && d <= fars[m] && p + d <= step; d++) {
                        times[p + d][m] = Math.min(times[p + d][m], times[p][had] + 1);
                    }
                }
            }
        }
        for (int m = 0; m < people.size(); m++) {
            best = Math.min(best, times[step][m]);
        }
        return best >= 1000 ? NONE : best;
    }

    // ---- shared: all ways to give, in the order by numbers ----

    private int[] bestWay;
    private int bestWorth;

    private void share(int man, int[] way, boolean[][] does) {
        if (man < people.size()) {
            for (int want = NONE; want < wants.size(); want++) {
                way[man] = want;
                share(man + 1, way, does);
            }
            return;
        }
        int worth = 0;
        for (int want = 0; want < wants.size(); want++) {
            int set = 0;
            for (int m = 0; m < way.length; m++) {
                set |= way[m] == want ? 1 << m : 0;
            }
            worth += does[want][set] ? wants.get(want).worth : 0;
        }
        if (worth > bestWorth) {
            bestWorth = worth;
            bestWay = way.clone();
        }
    }

    private void share() {
        boolean[][] does = new boolean[wants.size()][1 << people.size()];
        for (int want = 0; want < wants.size(); want++) {
            Want w = wants.get(want);
            int p = things.get(w.thing).step;
            for (int set = 0; set < does[want].length; set++) {
                does[want][set] = p == w.step || p < w.step && isDoing(w.thing, set, w.step);
            }
        }
        bestWorth = NONE;
        share(0, new int[people.size()], does);
    }

    int shared() {
        share();
        return bestWorth;
    }

    int given(int man) {
        unless(isMan(man), -1);
        share();
        return bestWay[man];
    }

    int mill(int thing, int step, int strength) {
        unless(isThing(thing), -1);
        isFarther(thing, step);
        unless(within(strength, 1, 99), -6);
        int p = things.get(thing).step;
        for (int n = 1; n <= 1000; n++) {
            p = onward(p, things.get(thing).far(strength, wind), step);
            if (p == step) {
                return n;
            }
        }
        return NONE;
    }

    int weakest(int thing, int set) {
        isSet(thing, set);
        unless(set != 0, -5);
        int best = NONE;
        for (int m = 0; m < people.size(); m++) {
            if ((set >> m & 1) == 1 && (best == NONE || end(thing, set - (1 << m)) > end(thing, set - (1 << best)))) {
                best = m;
            }
        }
        return best;
    }

    int helps(int thing, int set, int step, int man) {
        isSet(thing, set);
        unless(isMan(man) && (set >> man & 1) == 1, -1);
        isFarther(thing, step);
        unless(!isDoing(thing, set, step), -6);
        int[] fars = fars(thing);
        Man m = people.get(man);
        int before = NONE;
        for (int more = 0; more <= 99; more++) {
            fars[man] = things.get(thing).far(Math.max(0, m.strength + more - m.tired), wind);
            boolean isOther = fars[man] != before;
            before = fars[man];
            if (isOther && endsOf(things.get(thing).step, set, fars, step).contains(step)) {
                return more;
            }
        }
        return NONE;
    }

    // ---- throwing ----

    private void isThrow(int man, int thing, int d) {
        both(man, thing);
        unless(within(d, 1, 40), -6);
    }

    int caught(int man, int thing, int d) {
        isThrow(man, thing, d);
        return d <= 2 * far(man, thing) ? Math.max(0, 10 - (int) Math.floor(d / 4.0)) : 0;
    }

    private boolean isThrown(int man, int thing, int d) {
        return d <= 2 * far(man, thing) && isStep(things.get(thing).step + d);
    }

    int mean(int man, int thing, int d) {
        isThrow(man, thing, d);
        int worth = wants.stream().filter(w -> w.thing == thing && w.step == things.get(thing).step + d)
            .mapToInt(w -> w.worth).sum();
        return isThrown(man, thing, d) ? caught(man, thing, d) * worth / 10 : 0;
    }

    int cast(int man, int thing) {
        both(man, thing);
        int best = NONE;
        for (int d = 40; d >= 1; d--) {
            if (mean(man, thing, d) > 0 && (best == NONE || mean(man, thing, d) >= mean(man, thing, best))) {
                best = d;
            }
        }
        return best;
    }

    int toss(int man, int thing, int d) {
        isThrow(man, thing, d);
        Thing t = things.get(thing);
        unless(isThrown(man, thing, d) && !t.isBroken, -6);
        int tenths = caught(man, thing, d);
        seed = seed * 1103515245 + 12345;
        int draw = Integer.remainderUnsigned(seed >>> 16, 10);
        t.step += d;
        t.last = NONE;
        tire(people.get(man), t);
        t.isBroken = t instanceof Glass && draw >= tenths;
        return draw < tenths ? 1 : 0;
    }

    // ---- days ----

    int part(int thing) {
        unless(isThing(thing), -1);
        Thing t = things.get(thing);
        unless(t instanceof Parted, -2);
        unless(things.size() - 1 + t.extra <= 8, -7);
        for (int n = 0; n < t.extra; n++) {
            Thing one = make(0, (int) Math.ceil(t.weight / (double) t.extra), 1, t.step);
            one.last = t.last;
            if (n == 0) {
                things.set(thing, one);
            } else {
                things.add(one);
            }
        }
        return things.size();
    }

    int night() {
        people.forEach(m -> m.tired /= 2);
        things.forEach(t -> t.last = NONE);
        return people.stream().mapToInt(m -> m.tired).sum();
    }

    int seed(int v) {
        int was = seed;
        seed = v;
        return was;
    }

    int act(int thing, int act, int x) {
        trace.clear();
        if (!isThing(thing) || !within(act, 0, 2)) {
            return 0;
        }
        Thing t = things.get(thing);
        return act == 0 ? t.goes(this, x) : act == 1 ? t.rests(this, x) : t.falls(this, x);
    }

    int trace(int i) {
        return within(i, 0, Math.min(20, trace.size()) - 1) ? trace.get(i) : NONE;
    }

    /** A valley of its own that is as this one, but for SHELVES and what else THE IMAGE doesn't take. */
    private Model copy() {
        Model m = new Model();
        m.takeOver(this);
        return m;
    }

    private void takeOver(Model m) {
        things = new ArrayList<>();
        m.things.forEach(t -> things.add(t.copy()));
        people = new ArrayList<>();
        m.people.forEach(one -> people.add(new Man(one.strength, one.tired)));
        wants = new ArrayList<>(m.wants);
        length = m.length;
        from = m.from;
        to = m.to;
        wind = m.wind;
        seed = m.seed;
        inTruth = m.inTruth;
    }

    int image() {
        image = copy();
        return things.size();
    }

    int restore() {
        unless(image != null, -6);
        takeOver(image);
        for (int s = 0; s < 8; s++) {
            if (shelves[s] instanceof Integer && !isThing((Integer) shelves[s])) {
                shelves[s] = null;
            }
        }
        return things.size();
    }

    int status(int what) {
        int[] told = {things.size(), people.size(), wants.size(), length, from, to, wind, seed, trace.size(), inTruth};
        if (within(what, 0, 9)) {
            return told[what];
        }
        return within(what, 11, 17) ? refusals[what - 10] : NONE;
    }
}
