import java.lang.reflect.InvocationTargetException;
import java.lang.reflect.Method;
import java.util.ArrayList;
import java.util.Arrays;
import java.util.HashMap;
import java.util.List;
import java.util.Map;
import java.util.Random;
import java.util.Set;

/** All promises at once: runs of calls by a fixed seed, each answer held against Model's. */
public final class ModelTest {
    private static final Random RANDOM = new Random(20261120L);
    private static final Set<String> TEN_LESS = Set.of("handovers", "given", "mill", "helps", "cast");
    private static final int[] EDGES = {Integer.MIN_VALUE, -100, -2, -1, 0, 1, 2, 7, 8, 9, 10, 11, 39, 40, 41, 59, 60, 61,
        80, 98, 99, 100, 101, 159, 160, 161, 255, 256, 1 << 30, Integer.MAX_VALUE};

    /**
     * How often a call is made, its name and what its numbers are: s SHELF, o SORT, n size, i element, v value, t THING
     * or NONE, t THING, k KIND, w WEIGHT, e EXTRA, p STEP, f STRENGTH, h WORTH, m one of the PEOPLE, z a set, d steps,
     * c what, a an act, j one of the WANTS, g LONG or WIND, x any int.
     */
    private static final String[] CALLS = {
        "1 row son", "3 set siv", "3 copy ssiin", "4 element si", "3 show st", "2 holds s", "4 says sk", "3 thing kwep",
        "3 man f", "1 men sin", "3 want tph", "2 ask cg", "3 river pp", "6 thingOf tc", "4 manOf mc", "3 wantOf jc",
        "1 valley s", "1 fault ", "4 far mt", "5 wrong mtd", "9 carry mtd", "6 judge tsn", "4 end tz", "4 does tzp",
        "3 fewest tp", "5 order tzpi", "5 handovers tp", "2 shared ", "3 given m", "4 mill tpf", "3 weakest tz",
        "4 helps tzpm", "3 caught mtd", "4 mean mtd", "3 cast mt", "6 toss mtd", "3 part t", "3 night ", "2 seed x",
        "3 act tax", "3 trace i", "1 image ", "1 restore ", "4 status c"};
    private static final String[] ITEMS = {"thing %d %d %d %d", "man %d", "want %d %d %d", "long %d", "river %d %d",
        "wind %d"};

    private final NoFartherThanAThrow x = new NoFartherThanAThrow();
    private final Model model = new Model();
    private final int mostPeople;
    private final List<String> told = new ArrayList<>();
    private int calls = 0;
    private boolean hasFailed = false;

    private static final Map<String, Method[]> METHODS = new HashMap<>();

    private ModelTest(int mostPeople) {
        this.mostPeople = mostPeople;
    }

    public static void main(String[] args) throws IllegalAccessException {
        int runs = args.length > 0 ? Integer.parseInt(args[0]) : 300;
        if (args.length > 1) {
            RANDOM.setSeed(Long.parseLong(args[1]));
        }
        for (Method m : NoFartherThanAThrow.class.getDeclaredMethods()) {
            METHODS.put(m.getName(), new Method[] {m, null});
        }
        for (Method m : Model.class.getDeclaredMethods()) {
            boolean isFace = METHODS.containsKey(m.getName())
                && Arrays.equals(METHODS.get(m.getName())[0].getParameterTypes(), m.getParameterTypes());
            if (isFace) {
                METHODS.get(m.getName())[1] = m;
            }
        }
        Due.due("calls", CALLS.length, 44);
        for (int run = 0; run < runs; run++) {
            new ModelTest(run % 50 == 0 ? 8 : 1 + RANDOM.nextInt(5)).run();
        }
        Due.finish();
    }

    private void run() throws IllegalAccessException {
        begin();
        while (calls < 400 && !hasFailed) {
            if (RANDOM.nextInt(60) == 0) {
                text();
            } else if (RANDOM.nextInt(60) == 0) {
                moves();
            } else {
                String[] form = any().split(" ", -1);
                Object[] v = numbers(form[2]);
                if (RANDOM.nextBoolean()) {
                    aim(form[1], v);
                }
                if (!form[1].equals("man") || model.status(1) < mostPeople) {
                    call(form[1], v);
                }
            }
        }
        for (int what = 0; what < 18 && !hasFailed; what++) {
            call("status", what);
        }
    }

    private String any() {
        int sum = 0;
        for (String c : CALLS) {
            sum += c.charAt(0) - '0';
        }
        int at = RANDOM.nextInt(sum);
        for (String c : CALLS) {
            at -= c.charAt(0) - '0';
            if (at < 0) {
                return c;
            }
        }
        return CALLS[0];
    }

    /** THINGS, PEOPLE, WANTS enough that most calls have something to do. */
    private void begin() throws IllegalAccessException {
        if (RANDOM.nextBoolean()) {
            call("ask", 0, 30 + RANDOM.nextInt(70));
        }
        if (RANDOM.nextBoolean()) {
            int f = RANDOM.nextInt(25);
            call("river", f, f + RANDOM.nextInt(15));
        }
        if (RANDOM.nextBoolean()) {
            call("ask", 1, RANDOM.nextInt(10));
        }
        for (int n = 1 + RANDOM.nextInt(5); n > 0; n--) {
            call("thing", RANDOM.nextInt(7), weight(), 1 + RANDOM.nextInt(9), RANDOM.nextInt(30));
        }
        for (int n = mostPeople; n > 0; n--) {
            call("man", strength());
        }
        if (RANDOM.nextBoolean()) {
            call("row", 0, 2, 10);
            call("row", 1, 2, 8);
            for (int i = 0; i < 8; i++) {
                call("set", 1, i, (long) RANDOM.nextInt(40));
            }
        }
        for (int n = RANDOM.nextInt(4); n > 0; n--) {
            call("want", RANDOM.nextInt(model.status(0) + 1), RANDOM.nextInt(50), RANDOM.nextInt(100));
        }
    }

    private static int weight() {
        return 1 + RANDOM.nextInt(RANDOM.nextInt(3) == 0 ? 99 : 20);
    }

    private static int strength() {
        return 1 + RANDOM.nextInt(RANDOM.nextInt(3) == 0 ? 99 : 20);
    }

    private void text() throws IllegalAccessException {
        StringBuilder text = new StringBuilder();
        int items = 1 + RANDOM.nextInt(3);
        for (int i = 0; i < items; i++) {
            text.append(i == 0 ? "" : ";");
            String item = ITEMS[RANDOM.nextInt(ITEMS.length)];
            boolean isMan = item.startsWith("man") && model.status(1) + i >= mostPeople && mostPeople < 8;
            text.append(told(isMan ? "wind %d" : item));
        }
        if (RANDOM.nextInt(3) == 0) {
            int at = RANDOM.nextInt(text.length());
            switch (RANDOM.nextInt(4)) {
                case 0: text.setLength(at); break;
                case 1: text.deleteCharAt(at); break;
                case 2: text.insert(at, "0 ;x1".charAt(RANDOM.nextInt(5))); break;
                default: text.setCharAt(at, "0 ;x19".charAt(RANDOM.nextInt(6))); break;
            }
        }
        int s = RANDOM.nextInt(8);
        call("row", s, RANDOM.nextInt(4), text.length());
        for (int i = 0; i < text.length(); i++) {
            call("set", s, i, (long) text.charAt(i));
        }
        call("valley", s);
        call("fault");
        call("status", RANDOM.nextInt(7));
    }

    private static String told(String item) {
        int[] most = item.startsWith("thing") ? new int[] {7, 99, 10, 50}
            : item.startsWith("want") ? new int[] {4, 60, 99}
            : item.startsWith("river") ? new int[] {30, 40, 0} : new int[] {item.startsWith("long") ? 110 : 15};
        Integer[] v = new Integer[4];
        for (int i = 0; i < 4; i++) {
            v[i] = i < most.length && most[i] > 0 ? RANDOM.nextInt(most[i]) : 0;
        }
        return String.format(item, (Object[]) v);
    }

    private void moves() throws IllegalAccessException {
        int s = RANDOM.nextInt(8);
        int n = RANDOM.nextInt(7);
        call("row", s, RANDOM.nextInt(4), 2 * n);
        for (int i = 0; i < n; i++) {
            call("set", s, 2 * i, (long) RANDOM.nextInt(mostPeople + (RANDOM.nextInt(9) == 0 ? 1 : 0)));
            call("set", s, 2 * i + 1, (long) (RANDOM.nextInt(9) - 3));
        }
        for (int thing = 0; thing < 3; thing++) {
            call("judge", thing, s, n);
        }
    }

    private Object[] numbers(String form) {
        Object[] v = new Object[form.length()];
        for (int i = 0; i < v.length; i++) {
            int n = RANDOM.nextInt(25) == 0 ? EDGES[RANDOM.nextInt(EDGES.length)] : number(form.charAt(i));
            v[i] = form.charAt(i) == 'v' ? (Object) ((long) n << RANDOM.nextInt(40)) : (Object) n;
        }
        return v;
    }

    /** Turns numbers to where the answer is about to change: ends of rows, WANTS, what SHELVES hold. */
    private void aim(String name, Object[] v) {
        int thing = RANDOM.nextInt(Math.max(1, model.status(0)));
        int set = RANDOM.nextInt(1 << model.status(1));
        int want = model.status(2) == 0 ? Model.NONE : RANDOM.nextInt(model.status(2));
        if (Set.of("does", "order", "helps", "fewest", "handovers", "mill").contains(name) && model.status(0) > 0) {
            v[0] = thing;
            boolean isOfASet = v.length > 2 && !name.equals("mill");
            int end = model.end(thing, set) + RANDOM.nextInt(4) - 1;
            if (isOfASet) {
                v[1] = set;
            }
            v[isOfASet ? 2 : 1] = end;
            if (v.length > 3) {
                v[3] = name.equals("helps") ? Integer.numberOfTrailingZeros(set | 256) : RANDOM.nextInt(3);
            }
        }
        if (Set.of("mean", "cast", "toss", "caught").contains(name) && want != Model.NONE) {
            v[1] = model.wantOf(want, 0);
            if (v.length > 2) {
                v[2] = model.wantOf(want, 1) - model.thingOf(model.wantOf(want, 0), 3);
            }
        }
        for (int s = 0; s < 8 && name.equals("says"); s++) {
            if (Model.within(model.holds(s), 0, 7)) {
                v[0] = s;
                v[1] = RANDOM.nextInt(3) == 0 ? 0 : model.thingOf(model.holds(s), 0);
            }
        }
        if (name.equals("copy")) {
            v[0] = RANDOM.nextInt(2);
            v[1] = RANDOM.nextInt(2);
        }
        if (name.equals("men")) {
            v[0] = 1;
        }
        if (name.equals("row") && RANDOM.nextBoolean()) {
            v[1] = 2;
        }
    }

    private int number(char c) {
        int things = Math.max(1, model.status(0));
        int people = Math.max(1, model.status(1));
        switch (c) {
            case 's': return RANDOM.nextInt(8);
            case 'o': return RANDOM.nextInt(4);
            case 'n': return RANDOM.nextInt(6);
            case 'i': return RANDOM.nextInt(6);
            case 't': return RANDOM.nextInt(things);
            case 'k': return RANDOM.nextInt(7);
            case 'w': return weight();
            case 'e': return 1 + RANDOM.nextInt(9);
            case 'p': return RANDOM.nextInt(RANDOM.nextInt(3) == 0 ? 100 : 45);
            case 'f': return strength();
            case 'h': return RANDOM.nextInt(100);
            case 'm': return RANDOM.nextInt(people);
            case 'z': return RANDOM.nextInt(1 << people);
            case 'd': return RANDOM.nextInt(RANDOM.nextInt(3) == 0 ? 50 : 14) - (RANDOM.nextInt(3) == 0 ? 10 : 0);
            case 'a': return RANDOM.nextInt(3);
            case 'j': return RANDOM.nextInt(Math.max(1, model.status(2)));
            case 'c': return RANDOM.nextInt(RANDOM.nextInt(4) == 0 ? 18 : 6);
            case 'g': return RANDOM.nextInt(RANDOM.nextBoolean() ? 10 : 100);
            default: return RANDOM.nextInt();
        }
    }

    private void call(String name, Object... v) throws IllegalAccessException {
        calls++;
        Method[] both = METHODS.get(name);
        long due;
        try {
            due = ((Number) both[1].invoke(model, v)).longValue();
        } catch (InvocationTargetException e) {
            if (!(e.getCause() instanceof Model.Refused)) {
                throw new IllegalStateException(e.getCause());
            }
            int number = ((Model.Refused) e.getCause()).number;
            model.refusals[-number]++;
            due = TEN_LESS.contains(name) ? number - 10 : number;
        }
        long got = due + 1;
        String threw = "";
        try {
            got = ((Number) both[0].invoke(x, v)).longValue();
        } catch (InvocationTargetException e) {
            threw = " threw " + e.getCause();
        }
        told.add(name + Arrays.toString(v) + " " + got);
        if (got != due && !hasFailed) {
            hasFailed = true;
            told.forEach(System.out::println);
            Due.due(name + Arrays.toString(v) + threw, got, due);
        }
        Due.due("", 0, 0);
    }
}
