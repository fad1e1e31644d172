/**
 * A valley in which nobody may carry a thing farther than they could throw it.
 *
 * The face only looks at what a call may be refused for and hands the rest to the classes inside:
 * Valley (how things stand), Shelves (ROWS and THINGS shown), Reader (valleys read from texts),
 * Relay (standing rows), Sharing (people among wants), Acts (what things do, and the trace).
 */
public final class NoFartherThanAThrow {
    public static final int NONE = -1;

    private static final int NOBODY = -1;
    private static final int OTHER = -2;
    private static final int NOTHING = -3;
    private static final int BELOW = -4;
    private static final int BEYOND = -5;
    private static final int WRONG = -6;
    private static final int ROOM = -7;

    private static final int THING = 0;
    private static final int HEAVY = 1;
    private static final int LIGHT = 2;
    private static final int FEATHER = 3;
    private static final int GLASS = 4;
    private static final int PARTED = 5;
    private static final int ROUND = 6;
    private static final int KINDS = 7;
    /** By KIND: the KIND that it is under. */
    private static final int[] ABOVE = {NONE, THING, THING, LIGHT, THING, HEAVY, HEAVY};

    // Columns of the tables: the numbers that thingOf, manOf and wantOf take.
    private static final int KIND = 0;
    private static final int WEIGHT = 1;
    private static final int EXTRA = 2;
    private static final int STEP = 3;
    private static final int LAST = 4;
    private static final int BROKEN = 5;
    private static final int THING_COLUMNS = 6;
    private static final int STRENGTH = 0;
    private static final int TIRED = 1;
    private static final int MAN_COLUMNS = 2;
    private static final int WANTED = 0;
    private static final int GOAL = 1;
    private static final int WORTH = 2;
    private static final int WANT_COLUMNS = 3;
    private static final int THERE = 3;

    private static final int MOST_THINGS = 8;
    private static final int MOST_PEOPLE = 8;
    private static final int MOST_WANTS = 4;
    private static final int MOST_CELLS = 48;
    private static final int SETS = 256;
    private static final int TOP = 99;
    private static final int FARTHEST = 40;
    private static final int MOST_MOVES = 40;

    private final int[] refusals = new int[8];
    private final Valley now = new Valley();
    private final Valley kept = new Valley();
    private final Valley scratch = new Valley();
    private final Shelves shelves = new Shelves();
    private final Reader reader = new Reader(shelves, scratch);
    private final Relay relay = new Relay(now);
    private final Sharing sharing = new Sharing(now, relay);
    private final Acts acts = new Acts();
    private boolean hasImage;
    private int latestFault = NONE;

    public NoFartherThanAThrow() {
    }

    // ---- SHELVES ----

    public int row(int s, int sort, int n) {
        if (!shelves.has(s)) {
            return refuse(NOBODY);
        }
        if (n < 0) {
            return refuse(BELOW);
        }
        if (sort < Shelves.BYTES || sort > Shelves.LONGS) {
            return refuse(WRONG);
        }
        if (n > Shelves.LONGEST) {
            return refuse(ROOM);
        }
        shelves.makeRow(s, sort, n);
        return 1;
    }

    public int set(int s, int i, long v) {
        int no = shelves.noRow(s);
        if (no != 0) {
            return refuse(no);
        }
        if (!shelves.spans(s, i, 1)) {
            return refuse(BEYOND);
        }
        shelves.put(s, i, v);
        return 1;
    }

    public int copy(int p, int q, int i, int j, int n) {
        int no = shelves.noTwoRows(p, q);
        if (no != 0) {
            return refuse(no);
        }
        if (n < 0) {
            return refuse(BELOW);
        }
        if (!shelves.spans(p, i, n) || !shelves.spans(q, j, n)) {
            return refuse(BEYOND);
        }
        shelves.bring(p, q, i, j, n);
        return 1;
    }

    public long element(int s, int i) {
        return shelves.longAt(s, i);
    }

    public int show(int s, int thing) {
        if (!shelves.has(s) || (thing != NONE && !now.things.has(thing))) {
            return refuse(NOBODY);
        }
        shelves.hold(s, thing);
        return thing == NONE ? 0 : 1;
    }

    public int holds(int s) {
        return shelves.content(s);
    }

    public int says(int s, int kind) {
        if (!shelves.has(s) || !isKind(kind)) {
            return refuse(NOBODY);
        }
        int held = shelves.content(s);
        if (shelves.isRow(s) || (held != NONE && !isUnder(now.things.cell(held, KIND), kind))) {
            return refuse(OTHER);
        }
        if (held == NONE) {
            return refuse(NOTHING);
        }
        return now.word(held, kind);
    }

    // ---- what there is ----

    public int thing(int kind, int weight, int extra, int step) {
        if (!isKind(kind)) {
            return refuse(NOBODY);
        }
        if (!isWeight(weight) || !isExtra(extra) || !now.mayStand(step)) {
            return refuse(WRONG);
        }
        if (now.things.isFull()) {
            return refuse(ROOM);
        }
        return now.addThing(kind, weight, extra, step);
    }

    public int man(int strength) {
        if (!isStrength(strength)) {
            return refuse(WRONG);
        }
        if (now.people.isFull()) {
            return refuse(ROOM);
        }
        return now.addMan(strength);
    }

    public int men(int s, int i, int n) {
        int no = shelves.noRow(s);
        if (no != 0) {
            return refuse(no);
        }
        if (n < 0) {
            return refuse(BELOW);
        }
        if (!shelves.spans(s, i, n)) {
            return refuse(BEYOND);
        }
        int came = 0;
        while (came < n && !now.people.isFull() && isStrength(shelves.intAt(s, i + came))) {
            now.addMan(shelves.intAt(s, i + came));
            came++;
        }
        return came;
    }

    public int want(int thing, int step, int worth) {
        if (!now.things.has(thing)) {
            return refuse(NOBODY);
        }
        if (!now.mayStand(step) || !isWorth(worth)) {
            return refuse(WRONG);
        }
        if (now.wants.isFull()) {
            return refuse(ROOM);
        }
        return now.addWant(thing, step, worth);
    }

    public int ask(int what, int v) {
        if (what == 0 && now.mayBeLong(v)) {
            int before = now.length;
            now.length = v;
            return before;
        }
        if (what == 1 && isWind(v)) {
            int before = now.wind;
            now.wind = v;
            return before;
        }
        return refuse(WRONG);
    }

    public int river(int from, int to) {
        if (!now.mayBeRiver(from, to)) {
            return refuse(WRONG);
        }
        now.from = from;
        now.to = to;
        return 1;
    }

    public int thingOf(int thing, int what) {
        if (!now.things.hasCell(thing, what)) {
            return refuse(BEYOND);
        }
        return now.things.cell(thing, what);
    }

    public int manOf(int man, int what) {
        if (!now.people.hasCell(man, what)) {
            return refuse(BEYOND);
        }
        return now.people.cell(man, what);
    }

    public int wantOf(int want, int what) {
        if (now.wants.has(want) && what == THERE) {
            return now.isThere(want) ? 1 : 0;
        }
        if (!now.wants.hasCell(want, what)) {
            return refuse(BEYOND);
        }
        return now.wants.cell(want, what);
    }

    public int valley(int s) {
        int no = shelves.noRow(s);
        if (no != 0) {
            return refuse(no);
        }
        scratch.takeOver(now);
        latestFault = reader.read(s);
        if (latestFault != NONE) {
            return refuse(WRONG);
        }
        now.takeOver(scratch);
        return reader.items;
    }

    public int fault() {
        return latestFault;
    }

    // ---- carrying ----

    public int far(int man, int thing) {
        if (!now.hasBoth(man, thing)) {
            return refuse(NOBODY);
        }
        return now.reachOf(man, thing);
    }

    public int wrong(int man, int thing, int d) {
        if (!now.hasBoth(man, thing)) {
            return refuse(NOBODY);
        }
        return now.whyNot(man, thing, d);
    }

    public int carry(int man, int thing, int d) {
        if (!now.hasBoth(man, thing)) {
            return refuse(NOBODY);
        }
        if (now.whyNot(man, thing, d) != 0) {
            return refuse(WRONG);
        }
        now.bring(man, thing, d);
        return now.stepOf(thing);
    }

    public int judge(int thing, int s, int n) {
        if (!now.things.has(thing)) {
            return refuse(NOBODY);
        }
        int no = shelves.noRow(s);
        if (no != 0) {
            return refuse(no);
        }
        if (n < 0) {
            return refuse(BELOW);
        }
        if (2L * n > shelves.sizeOf(s)) {
            return refuse(BEYOND);
        }
        if (n > MOST_MOVES) {
            return refuse(WRONG);
        }
        scratch.takeOver(now);
        return firstThatCant(thing, s, n);
    }

    /** The moves are made in the scratch valley, so that later ones meet who is TIRED and LAST by then. */
    private int firstThatCant(int thing, int s, int n) {
        for (int move = 0; move < n; move++) {
            int man = shelves.intAt(s, 2 * move);
            int d = shelves.intAt(s, 2 * move + 1);
            if (!scratch.people.has(man) || scratch.whyNot(man, thing, d) != 0) {
                return move;
            }
            scratch.bring(man, thing, d);
        }
        return NONE;
    }

    // ---- standing rows ----

    public int end(int thing, int set) {
        if (!now.things.has(thing) || !now.isSet(set)) {
            return refuse(NOBODY);
        }
        return relay.endOf(thing, set, now.length);
    }

    public int does(int thing, int set, int step) {
        if (!now.things.has(thing) || !now.isSet(set)) {
            return refuse(NOBODY);
        }
        if (!now.isOnward(thing, step)) {
            return refuse(WRONG);
        }
        return relay.endOf(thing, set, step) == step ? 1 : 0;
    }

    public int fewest(int thing, int step) {
        if (!now.things.has(thing)) {
            return refuse(NOBODY);
        }
        if (!now.isOnward(thing, step)) {
            return refuse(WRONG);
        }
        int fewest = relay.leastSet(thing, step);
        return fewest == 0 ? refuse(BEYOND) : fewest;
    }

    public int order(int thing, int set, int step, int i) {
        if (!now.things.has(thing) || !now.isSet(set)) {
            return refuse(NOBODY);
        }
        // What is no STEP leaves no ORDER to look for a place in: -6 before -5 here.
        if (!now.isOnward(thing, step)) {
            return refuse(WRONG);
        }
        if (i < 0 || i >= Integer.bitCount(set) || relay.endOf(thing, set, step) != step) {
            return refuse(BEYOND);
        }
        return relay.placed(thing, set, step, i);
    }

    public int handovers(int thing, int step) {
        if (!now.things.has(thing)) {
            return refuseApart(NOBODY);
        }
        if (!now.isOnward(thing, step)) {
            return refuseApart(WRONG);
        }
        return relay.fewestCarries(thing, step);
    }

    public int shared() {
        sharing.share();
        return sharing.worthMet();
    }

    public int given(int man) {
        if (!now.people.has(man)) {
            return refuseApart(NOBODY);
        }
        sharing.share();
        return sharing.wantFor(man);
    }

    public int mill(int thing, int step, int strength) {
        if (!now.things.has(thing)) {
            return refuseApart(NOBODY);
        }
        if (!now.isOnward(thing, step) || !isStrength(strength)) {
            return refuseApart(WRONG);
        }
        return relay.equalsNeeded(thing, step, strength);
    }

    public int weakest(int thing, int set) {
        if (!now.things.has(thing) || !now.isSet(set)) {
            return refuse(NOBODY);
        }
        if (set == 0) {
            return refuse(BEYOND);
        }
        return relay.leastMissed(thing, set);
    }

    public int helps(int thing, int set, int step, int man) {
        if (!now.things.has(thing) || !now.isSet(set) || !now.people.has(man) || (set >> man & 1) == 0) {
            return refuseApart(NOBODY);
        }
        if (!now.isOnward(thing, step) || relay.endOf(thing, set, step) == step) {
            return refuseApart(WRONG);
        }
        return relay.strengthNeeded(thing, set, step, man);
    }

    // ---- throwing ----

    public int caught(int man, int thing, int d) {
        if (!now.hasBoth(man, thing)) {
            return refuse(NOBODY);
        }
        if (!isThrow(d)) {
            return refuse(WRONG);
        }
        return now.caughtTenths(man, thing, d);
    }

    public int mean(int man, int thing, int d) {
        if (!now.hasBoth(man, thing)) {
            return refuse(NOBODY);
        }
        if (!isThrow(d)) {
            return refuse(WRONG);
        }
        return now.meanWorth(man, thing, d);
    }

    public int cast(int man, int thing) {
        if (!now.hasBoth(man, thing)) {
            return refuseApart(NOBODY);
        }
        int best = NONE;
        int most = 0;
        for (int d = 1; d <= FARTHEST; d++) {
            int worth = now.meanWorth(man, thing, d);
            if (worth > most) {
                most = worth;
                best = d;
            }
        }
        return best;
    }

    public int toss(int man, int thing, int d) {
        if (!now.hasBoth(man, thing)) {
            return refuse(NOBODY);
        }
        if (!isThrow(d) || !now.mayBeThrown(man, thing, d) || now.things.cell(thing, BROKEN) != 0) {
            return refuse(WRONG);
        }
        return now.fling(man, thing, d) ? 1 : 0;
    }

    // ---- days ----

    public int part(int thing) {
        if (!now.things.has(thing)) {
            return refuse(NOBODY);
        }
        if (now.things.cell(thing, KIND) != PARTED) {
            return refuse(OTHER);
        }
        if (now.things.size + now.things.cell(thing, EXTRA) - 1 > MOST_THINGS) {
            return refuse(ROOM);
        }
        now.cutUp(thing);
        return now.things.size;
    }

    public int night() {
        return now.sleep();
    }

    public int seed(int v) {
        int before = now.seed;
        now.seed = v;
        return before;
    }

    public int act(int thing, int act, int x) {
        if (!now.things.has(thing) || act < Acts.GOES || act > Acts.FALLS) {
            acts.forget();
            return 0;
        }
        return acts.perform(thing, now.things.cell(thing, KIND), now.things.cell(thing, WEIGHT), act, x);
    }

    public int trace(int i) {
        return acts.bodyThatRan(i);
    }

    public int image() {
        kept.takeOver(now);
        hasImage = true;
        return now.things.size;
    }

    public int restore() {
        if (!hasImage) {
            return refuse(WRONG);
        }
        now.takeOver(kept);
        shelves.dropThingsFrom(now.things.size);
        return now.things.size;
    }

    public int status(int what) {
        switch (what) {
            case 0: return now.things.size;
            case 1: return now.people.size;
            case 2: return now.wants.size;
            case 3: return now.length;
            case 4: return now.from;
            case 5: return now.to;
            case 6: return now.wind;
            case 7: return now.seed;
            case 8: return acts.ran;
            case 9: return now.moves;
            default: return what >= 11 && what <= 17 ? refusals[what - 10] : NONE;
        }
    }

    // ---- refusals ----

    private int refuse(int number) {
        int at = -number;
        if (at > 0 && at < refusals.length) {
            refusals[at]++;
        }
        return number;
    }

    /** Where NONE is an answer, -1 can't tell a refusal: these answer ten less. */
    private int refuseApart(int number) {
        return refuse(number) - 10;
    }

    // ---- numbers that may be ----

    private static boolean isKind(int kind) {
        return kind >= 0 && kind < KINDS;
    }

    private static boolean isUnder(int kind, int wanted) {
        int k = kind;
        for (int up = 0; up < KINDS && isKind(k); up++) {
            if (k == wanted) {
                return true;
            }
            k = ABOVE[k];
        }
        return false;
    }

    private static boolean isWeight(int weight) {
        return weight >= 1 && weight <= TOP;
    }

    private static boolean isExtra(int extra) {
        return extra >= 1 && extra <= 9;
    }

    private static boolean isStrength(int strength) {
        return strength >= 1 && strength <= TOP;
    }

    private static boolean isWorth(int worth) {
        return worth >= 0 && worth <= TOP;
    }

    private static boolean isWind(int wind) {
        return wind >= 0 && wind <= 9;
    }

    private static boolean isThrow(int d) {
        return d >= 1 && d <= FARTHEST;
    }

    /** Rows of numbers of one width, with a size of their own; an index that isn't there reads as NONE. */
    private static final class Table {
        private final int[] cells = new int[MOST_CELLS];
        private final int room;
        private final int width;
        private int size;

        Table(int room, int width) {
            this.room = room;
            this.width = width;
        }

        boolean has(int i) {
            return i >= 0 && i < size;
        }

        boolean isFull() {
            return size >= room;
        }

        boolean hasCell(int i, int what) {
            return has(i) && what >= 0 && what < width;
        }

        /** Looks at its index itself, without hasCell: it stands at the end of the deepest calls. */
        int cell(int i, int what) {
            int at = i * width + what;
            boolean isThere = i >= 0 && i < size && what >= 0 && what < width;
            return isThere && at < cells.length ? cells[at] : NONE;
        }

        void put(int i, int what, int v) {
            int at = i * width + what;
            if (hasCell(i, what) && at < cells.length) {
                cells[at] = v;
            }
        }

        /** The number of a new row; the caller puts all of its cells. */
        int append() {
            size++;
            return size - 1;
        }

        void takeOver(Table other) {
            System.arraycopy(other.cells, 0, cells, 0, MOST_CELLS);
            size = other.size;
        }
    }

    /** How things stand: all that THE IMAGE takes. */
    private static final class Valley {
        private final Table things = new Table(MOST_THINGS, THING_COLUMNS);
        private final Table people = new Table(MOST_PEOPLE, MAN_COLUMNS);
        private final Table wants = new Table(MOST_WANTS, WANT_COLUMNS);
        private int length = 60;
        private int from;
        private int to;
        private int wind;
        private int seed = 1;
        private int moves;

        void takeOver(Valley other) {
            things.takeOver(other.things);
            people.takeOver(other.people);
            wants.takeOver(other.wants);
            length = other.length;
            from = other.from;
            to = other.to;
            wind = other.wind;
            seed = other.seed;
            moves = other.moves;
        }

        int addThing(int kind, int weight, int extra, int step) {
            int thing = things.append();
            things.put(thing, KIND, kind);
            things.put(thing, WEIGHT, weight);
            things.put(thing, EXTRA, extra);
            things.put(thing, STEP, step);
            things.put(thing, LAST, NONE);
            things.put(thing, BROKEN, 0);
            return thing;
        }

        int addMan(int strength) {
            int man = people.append();
            people.put(man, STRENGTH, strength);
            people.put(man, TIRED, 0);
            return man;
        }

        int addWant(int thing, int step, int worth) {
            int want = wants.append();
            wants.put(want, WANTED, thing);
            wants.put(want, GOAL, step);
            wants.put(want, WORTH, worth);
            return want;
        }

        boolean hasBoth(int man, int thing) {
            return people.has(man) && things.has(thing);
        }

        boolean isSet(int set) {
            return set >= 0 && set <= everybody();
        }

        int everybody() {
            return (1 << people.size) - 1;
        }

        int stepOf(int thing) {
            return things.cell(thing, STEP);
        }

        boolean isThere(int want) {
            return stepOf(wants.cell(want, WANTED)) == wants.cell(want, GOAL);
        }

        boolean inRiver(int step) {
            return step > from && step < to;
        }

        boolean mayStand(int step) {
            return step >= 0 && step <= length && !inRiver(step);
        }

        boolean isOnward(int thing, int step) {
            return mayStand(step) && step > stepOf(thing);
        }

        boolean mayBeLong(int n) {
            return n >= 1 && n <= TOP && n >= to && !isTold(n, TOP + 1);
        }

        boolean mayBeRiver(int f, int t) {
            return f >= 0 && f <= t && t <= length && !isTold(f, t);
        }

        /** Whether a THING or a WANT has a STEP above the one and below the other. */
        private boolean isTold(int above, int below) {
            for (int thing = 0; thing < things.size; thing++) {
                if (stepOf(thing) > above && stepOf(thing) < below) {
                    return true;
                }
            }
            for (int want = 0; want < wants.size; want++) {
                if (wants.cell(want, GOAL) > above && wants.cell(want, GOAL) < below) {
                    return true;
                }
            }
            return false;
        }

        int strengthLeft(int man, int more) {
            return Math.max(0, people.cell(man, STRENGTH) + more - people.cell(man, TIRED));
        }

        int reachOf(int man, int thing) {
            return reach(strengthLeft(man, 0), thing);
        }

        /** FAR of one of some STRENGTH who isn't TIRED. */
        int reach(int strength, int thing) {
            int weight = things.cell(thing, WEIGHT);
            int extra = things.cell(thing, EXTRA);
            int plain = capped(can(strength, weight));
            int heavy = capped(can(strength, weight) / 2);
            switch (things.cell(thing, KIND)) {
                case HEAVY: return heavy;
                case PARTED: return capped(can(strength, byRoundedUp(weight, extra)) / 2);
                case ROUND: return heavy + extra;
                case LIGHT: return plain + wind;
                case FEATHER: return (plain + wind) / 2;
                case GLASS: return Math.min(plain, 5);
                default: return plain;
            }
        }

        private static int can(int strength, int weight) {
            return weight > 0 ? strength * 10 / weight : 0;
        }

        private static int capped(int steps) {
            return Math.min(steps, FARTHEST);
        }

        private static int byRoundedUp(int weight, int extra) {
            return extra > 0 ? (weight + extra - 1) / extra : weight;
        }

        int word(int thing, int kind) {
            switch (kind) {
                case HEAVY:
                case PARTED:
                case ROUND: return things.cell(thing, EXTRA);
                case LIGHT:
                case FEATHER: return reach(9, thing);
                case GLASS: return things.cell(thing, BROKEN);
                default: return things.cell(thing, WEIGHT);
            }
        }

        /** By what one can't carry a THING; a carry of no steps counts as one that is too far. */
        int whyNot(int man, int thing, int d) {
            long end = (long) stepOf(thing) + d;
            if (things.cell(thing, LAST) == man) {
                return 1;
            }
            if (end < 0 || end > length) {
                return 2;
            }
            if (inRiver((int) end)) {
                return 3;
            }
            if (d == 0 || Math.abs(d) > reachOf(man, thing)) {
                return 4;
            }
            return things.cell(thing, BROKEN) != 0 ? 5 : 0;
        }

        void bring(int man, int thing, int d) {
            moveOn(man, thing, d);
            things.put(thing, LAST, man);
        }

        private void moveOn(int man, int thing, int d) {
            things.put(thing, STEP, stepOf(thing) + d);
            int tired = people.cell(man, TIRED) + things.cell(thing, WEIGHT) / 10 + 1;
            people.put(man, TIRED, Math.min(tired, TOP));
            moves++;
        }

        int caughtTenths(int man, int thing, int d) {
            return d > 2 * reachOf(man, thing) ? 0 : Math.max(0, 10 - d / 4);
        }

        boolean mayBeThrown(int man, int thing, int d) {
            return d <= 2 * reachOf(man, thing) && mayStand(stepOf(thing) + d);
        }

        int meanWorth(int man, int thing, int d) {
            if (!mayBeThrown(man, thing, d)) {
                return 0;
            }
            int worth = 0;
            for (int want = 0; want < wants.size; want++) {
                if (wants.cell(want, WANTED) == thing && wants.cell(want, GOAL) == stepOf(thing) + d) {
                    worth += wants.cell(want, WORTH);
                }
            }
            return caughtTenths(man, thing, d) * worth / 10;
        }

        boolean fling(int man, int thing, int d) {
            boolean isCaught = draw(10) < caughtTenths(man, thing, d);
            moveOn(man, thing, d);
            things.put(thing, LAST, NONE);
            if (!isCaught && things.cell(thing, KIND) == GLASS) {
                things.put(thing, BROKEN, 1);
            }
            return isCaught;
        }

        private int draw(int n) {
            seed = seed * 1103515245 + 12345;
            return n > 0 ? (seed >>> 16) % n : 0;
        }

        void cutUp(int thing) {
            int parts = things.cell(thing, EXTRA);
            int weight = byRoundedUp(things.cell(thing, WEIGHT), parts);
            things.put(thing, KIND, THING);
            things.put(thing, WEIGHT, weight);
            things.put(thing, EXTRA, 1);
            for (int part = 1; part < parts && !things.isFull(); part++) {
                int other = addThing(THING, weight, 1, stepOf(thing));
                things.put(other, LAST, things.cell(thing, LAST));
            }
        }

        int sleep() {
            int together = 0;
            for (int man = 0; man < people.size; man++) {
                int tired = people.cell(man, TIRED) / 2;
                people.put(man, TIRED, tired);
                together += tired;
            }
            for (int thing = 0; thing < things.size; thing++) {
                things.put(thing, LAST, NONE);
            }
            return together;
        }
    }

    /** What each of the SHELVES holds; the rows are made once and used again. */
    private static final class Shelves {
        private static final int SHELVES = 8;
        private static final int LONGEST = 160;
        private static final int ROWS = 100;
        private static final int BYTES = 0;
        private static final int SHORTS = 1;
        private static final int INTS = 2;
        private static final int LONGS = 3;

        /** As holds() tells it: NONE, a THING's number, ROWS and the SORT. */
        private final int[] held = {NONE, NONE, NONE, NONE, NONE, NONE, NONE, NONE};
        /** 0 where there is no ROW. */
        private final int[] sizes = new int[SHELVES];
        private final long[][] rows = new long[SHELVES][LONGEST];

        boolean has(int s) {
            return s >= 0 && s < SHELVES;
        }

        int content(int s) {
            return has(s) ? held[s] : NONE;
        }

        boolean isRow(int s) {
            return content(s) >= ROWS;
        }

        private boolean isThing(int s) {
            return content(s) != NONE && !isRow(s);
        }

        /** The refusal where a ROW is wanted in SHELF s; 0 if there is one. */
        int noRow(int s) {
            if (!has(s)) {
                return NOBODY;
            }
            if (isRow(s)) {
                return 0;
            }
            return isThing(s) ? OTHER : NOTHING;
        }

        int noTwoRows(int p, int q) {
            if (!has(p) || !has(q)) {
                return NOBODY;
            }
            boolean unlike = isRow(p) && isRow(q) && content(p) != content(q);
            if (isThing(p) || isThing(q) || unlike) {
                return OTHER;
            }
            return isRow(p) && isRow(q) ? 0 : NOTHING;
        }

        int sizeOf(int s) {
            return has(s) ? sizes[s] : 0;
        }

        /** Whether n elements from i on are there; their end may be the ROW's. */
        boolean spans(int s, int i, int n) {
            return has(s) && i >= 0 && n >= 0 && (long) i + n <= sizeOf(s);
        }

        void makeRow(int s, int sort, int n) {
            if (!has(s) || n < 0 || n > LONGEST) {
                return;
            }
            held[s] = ROWS + sort;
            sizes[s] = n;
            for (int i = 0; i < LONGEST; i++) {
                rows[s][i] = 0;
            }
        }

        void hold(int s, int thing) {
            if (has(s)) {
                held[s] = thing;
                sizes[s] = 0;
            }
        }

        void put(int s, int i, long v) {
            if (spans(s, i, 1)) {
                rows[s][i] = lowest(held[s] - ROWS, v);
            }
        }

        private static long lowest(int sort, long v) {
            switch (sort) {
                case BYTES: return (byte) v;
                case SHORTS: return (short) v;
                case INTS: return (int) v;
                default: return v;
            }
        }

        long longAt(int s, int i) {
            return spans(s, i, 1) ? rows[s][i] : 0;
        }

        int intAt(int s, int i) {
            return (int) longAt(s, i);
        }

        void bring(int p, int q, int i, int j, int n) {
            if (spans(p, i, n) && spans(q, j, n)) {
                System.arraycopy(rows[p], i, rows[q], j, n);
            }
        }

        void dropThingsFrom(int number) {
            for (int s = 0; s < SHELVES; s++) {
                if (isThing(s) && held[s] >= number) {
                    held[s] = NONE;
                }
            }
        }
    }

    /** Reads a text into the scratch valley, ITEM by ITEM, up to the first FAULT. */
    private static final class Reader {
        private final Shelves shelves;
        private final Valley into;
        private final int[] text = new int[Shelves.LONGEST];
        private int size;
        private int at;
        private int numberAt;
        private int firstFault;
        private int items;

        Reader(Shelves shelves, Valley into) {
            this.shelves = shelves;
            this.into = into;
        }

        int read(int s) {
            size = Math.min(shelves.sizeOf(s), Shelves.LONGEST);
            for (int i = 0; i < size; i++) {
                text[i] = shelves.intAt(s, i);
            }
            at = 0;
            firstFault = NONE;
            readItem();
            // Each ITEM takes an element at least, so a ROW's length bounds them.
            for (items = 1; items < Shelves.LONGEST && firstFault == NONE && at < size; items++) {
                expect(';');
                readItem();
            }
            return firstFault;
        }

        private void readItem() {
            switch (letter(at)) {
                case 't': readThing(); break;
                case 'm': readMan(); break;
                case 'l': readLong(); break;
                case 'r': readRiver(); break;
                case 'w':
                    if (letter(at + 1) == 'i') {
                        readWind();
                    } else {
                        readWant();
                    }
                    break;
                default: fail(at); break;
            }
        }

        private void readThing() {
            expectWord("thing", into.things.isFull());
            int kind = number();
            must(isKind(kind));
            int weight = number();
            must(isWeight(weight));
            int extra = number();
            must(isExtra(extra));
            int step = number();
            must(into.mayStand(step));
            if (firstFault == NONE) {
                into.addThing(kind, weight, extra, step);
            }
        }

        private void readMan() {
            expectWord("man", into.people.isFull());
            int strength = number();
            must(isStrength(strength));
            if (firstFault == NONE) {
                into.addMan(strength);
            }
        }

        private void readWant() {
            expectWord("want", into.wants.isFull());
            int thing = number();
            must(into.things.has(thing));
            int step = number();
            must(into.mayStand(step));
            int worth = number();
            must(isWorth(worth));
            if (firstFault == NONE) {
                into.addWant(thing, step, worth);
            }
        }

        private void readLong() {
            expectWord("long", false);
            int length = number();
            must(into.mayBeLong(length));
            if (firstFault == NONE) {
                into.length = length;
            }
        }

        private void readRiver() {
            expectWord("river", false);
            int from = number();
            int to = number();
            must(into.mayBeRiver(from, to));
            if (firstFault == NONE) {
                into.from = from;
                into.to = to;
            }
        }

        private void readWind() {
            expectWord("wind", false);
            int wind = number();
            must(isWind(wind));
            if (firstFault == NONE) {
                into.wind = wind;
            }
        }

        /** Room is asked for only when the letters stand whole, and its lack is told of the first of them. */
        private void expectWord(String word, boolean noRoom) {
            int start = at;
            for (int i = 0; i < word.length(); i++) {
                expect(word.charAt(i));
            }
            if (noRoom) {
                fail(start);
            }
        }

        /** A blank and a NUMBER behind it; 0 if there is a FAULT. */
        private int number() {
            expect(' ');
            numberAt = at;
            if (!isDigit(letter(at))) {
                fail(at);
            }
            int value = 0;
            for (int digits = 0; digits < 2 && firstFault == NONE && isDigit(letter(at)); digits++) {
                value = value * 10 + letter(at) - '0';
                at++;
            }
            return value;
        }

        private void must(boolean mayBe) {
            if (!mayBe) {
                fail(numberAt);
            }
        }

        private void expect(char wanted) {
            if (firstFault != NONE) {
                return;
            }
            if (letter(at) == wanted) {
                at++;
            } else {
                fail(at);
            }
        }

        /** Only the first FAULT stays: all that is looked at behind it fails too. */
        private void fail(int place) {
            if (firstFault == NONE) {
                firstFault = place;
            }
        }

        private int letter(int i) {
            return i >= 0 && i < size && i < text.length ? text[i] : NONE;
        }

        private static boolean isDigit(int letter) {
            return letter >= '0' && letter <= '9';
        }
    }

    /** Standing rows: how far sets of PEOPLE bring a THING. */
    private static final class Relay {
        private final Valley valley;
        private final int[] fars = new int[MOST_PEOPLE];
        /** By set, as bits: how far it brings the THING in its best order. */
        private final int[] ends = new int[SETS];

        Relay(Valley valley) {
            this.valley = valley;
        }

        int endOf(int thing, int set, int wanted) {
            measure(thing);
            return fill(valley.stepOf(thing), set, wanted);
        }

        /** What the latest look at a set that has this one in it found for this one. */
        int endFound(int set) {
            return set >= 0 && set < SETS ? ends[set] : NONE;
        }

        int leastSet(int thing, int step) {
            int all = valley.everybody();
            endOf(thing, all, step);
            int least = 0;
            for (int set = 1; set <= all; set++) {
                boolean fewer = least == 0 || Integer.bitCount(set) < Integer.bitCount(least);
                if (fewer && endFound(set) == step) {
                    least = set;
                }
            }
            return least;
        }

        /** Who is i-th in ORDER of a set that DOES. */
        int placed(int thing, int set, int step, int i) {
            measure(thing);
            int p = valley.stepOf(thing);
            int left = set;
            int man = NONE;
            for (int place = 0; place <= i && place < MOST_PEOPLE; place++) {
                man = firstThatDoes(p, left, step);
                if (man < 0 || man >= MOST_PEOPLE) {
                    return NONE;
                }
                p = onward(p, fars[man], step);
                left &= ~(1 << man);
            }
            return man;
        }

        private int firstThatDoes(int p, int left, int step) {
            for (int man = 0; man < MOST_PEOPLE; man++) {
                int bit = 1 << man;
                if ((left & bit) != 0 && fill(onward(p, fars[man], step), left & ~bit, step) == step) {
                    return man;
                }
            }
            return NONE;
        }

        /** The one with the greatest FAR of those who may have it is never worse than another. */
        int fewestCarries(int thing, int step) {
            measure(thing);
            int p = valley.stepOf(thing);
            int had = valley.things.cell(thing, LAST);
            for (int carries = 1; carries <= TOP; carries++) {
                int man = farthestBut(had);
                if (man < 0 || man >= MOST_PEOPLE) {
                    return NONE;
                }
                p += fars[man];
                if (p >= step) {
                    return carries;
                }
                had = man;
            }
            return NONE;
        }

        /** NONE if nobody else can bring it a step on. */
        private int farthestBut(int had) {
            int best = NONE;
            int most = 0;
            for (int man = 0; man < MOST_PEOPLE && man < valley.people.size; man++) {
                if (man != had && fars[man] > most) {
                    most = fars[man];
                    best = man;
                }
            }
            return best;
        }

        int equalsNeeded(int thing, int step, int strength) {
            int far = valley.reach(strength, thing);
            int p = valley.stepOf(thing);
            for (int hands = 1; hands <= TOP; hands++) {
                int next = onward(p, far, step);
                if (next == step) {
                    return hands;
                }
                if (next == p) {
                    return NONE;
                }
                p = next;
            }
            return NONE;
        }

        int leastMissed(int thing, int set) {
            endOf(thing, set, valley.length);
            int least = NONE;
            int most = NONE;
            for (int man = 0; man < MOST_PEOPLE; man++) {
                boolean inSet = (set >> man & 1) != 0;
                if (inSet && endFound(set & ~(1 << man)) > most) {
                    most = endFound(set & ~(1 << man));
                    least = man;
                }
            }
            return least;
        }

        /** FAR never falls as STRENGTH grows, so the least that does can be halved in on. */
        int strengthNeeded(int thing, int set, int step, int man) {
            measure(thing);
            if (!doesWith(thing, set, step, man, TOP)) {
                return NONE;
            }
            int tooLittle = 0;
            int enough = TOP;
            for (int halving = 0; halving < TOP && enough - tooLittle > 1; halving++) {
                int middle = (tooLittle + enough) / 2;
                if (doesWith(thing, set, step, man, middle)) {
                    enough = middle;
                } else {
                    tooLittle = middle;
                }
            }
            return enough;
        }

        private boolean doesWith(int thing, int set, int step, int man, int more) {
            if (man >= 0 && man < MOST_PEOPLE) {
                fars[man] = valley.reach(valley.strengthLeft(man, more), thing);
            }
            return fill(valley.stepOf(thing), set, step) == step;
        }

        private void measure(int thing) {
            for (int man = 0; man < MOST_PEOPLE; man++) {
                fars[man] = man < valley.people.size ? valley.reachOf(man, thing) : 0;
            }
        }

        /**
         * The ends of a set and of all within it. A THING that is farther on never ends less far, so of the orders
         * of a set only the farthest end has to be kept.
         */
        private int fill(int start, int set, int wanted) {
            ends[0] = start;
            for (int part = 1; part <= set && part < SETS; part++) {
                if ((part & ~set) == 0) {
                    ends[part] = farthestEnd(part, wanted);
                }
            }
            return endFound(set);
        }

        private int farthestEnd(int set, int wanted) {
            int farthest = 0;
            for (int man = 0; man < MOST_PEOPLE; man++) {
                if ((set >> man & 1) != 0) {
                    farthest = Math.max(farthest, onward(endFound(set & ~(1 << man)), fars[man], wanted));
                }
            }
            return farthest;
        }

        private int onward(int p, int far, int wanted) {
            int next = p + far;
            if (valley.inRiver(next)) {
                next = Math.max(p, valley.from);
            }
            return Math.min(next, wanted);
        }
    }

    /**
     * PEOPLE given to WANTS. Each way to give is a number to the base 5, number 0's digit the highest, none 0 and
     * WANT w w + 1; a way scores its WORTH met times WAYS less that number, so the greatest score is both the
     * greatest WORTH and of several the first way. Both add up over WANTS, so sets can be shared out WANT by WANT.
     */
    private static final class Sharing {
        private static final int BASE = 5;
        private static final int WAYS = 390625;
        private static final int[] DIGITS = {78125, 15625, 3125, 625, 125, 25, 5, 1};

        private final Valley valley;
        private final Relay relay;
        /** By set: the greatest score of the WANTS looked at so far, if these PEOPLE may be given. */
        private final int[] scores = new int[SETS];
        /** By set: what it adds to the score if it is given to the WANT looked at; NONE if that doesn't do. */
        private final int[] gains = new int[SETS];
        private int score;

        Sharing(Valley valley, Relay relay) {
            this.valley = valley;
            this.relay = relay;
        }

        void share() {
            int all = Math.min(valley.everybody(), SETS - 1);
            for (int set = 0; set < SETS; set++) {
                scores[set] = 0;
            }
            int metByNobody = 0;
            for (int want = 0; want < valley.wants.size; want++) {
                if (valley.isThere(want)) {
                    metByNobody += valley.wants.cell(want, WORTH);
                } else if (findGains(want, all)) {
                    shareOut(all);
                }
            }
            score = metByNobody * WAYS + scores[all];
        }

        /** A way's number is below WAYS, so the WORTH is the score by WAYS, rounded up. */
        int worthMet() {
            return (score + WAYS - 1) / WAYS;
        }

        int wantFor(int man) {
            int way = (WAYS - score % WAYS) % WAYS;
            return man >= 0 && man < DIGITS.length ? way / DIGITS[man] % BASE - 1 : NONE;
        }

        /** Whether a set could meet the WANT at all. */
        private boolean findGains(int want, int all) {
            int thing = valley.wants.cell(want, WANTED);
            int step = valley.wants.cell(want, GOAL);
            int worth = valley.wants.cell(want, WORTH);
            if (!valley.isOnward(thing, step) || relay.endOf(thing, all, step) != step) {
                return false;
            }
            for (int set = 0; set <= all; set++) {
                gains[set] = relay.endFound(set) == step ? worth * WAYS - (want + 1) * digitsOf(set) : NONE;
            }
            return true;
        }

        private static int digitsOf(int set) {
            int sum = 0;
            for (int man = 0; man < DIGITS.length; man++) {
                if ((set >> man & 1) != 0) {
                    sum += DIGITS[man];
                }
            }
            return sum;
        }

        /** From the greatest set down: what is left of a set still has the score without this WANT. */
        private void shareOut(int all) {
            for (int set = all; set > 0; set--) {
                int best = scores[set];
                for (int part = set; part > 0; part = (part - 1) & set) {
                    if (gains[part] > 0) {
                        best = Math.max(best, gains[part] + scores[set & ~part]);
                    }
                }
                scores[set] = best;
            }
        }
    }

    /** What THINGS do, body by body, and THE TRACE of it. */
    private static final class Acts {
        private static final int GOES = 0;
        private static final int RESTS = 1;
        private static final int FALLS = 2;
        private static final int ACTS = 3;
        private static final int KEPT = 20;
        private static final int DEEPEST = 40;
        /** By KIND and ACT: the body that it has itself; 0 none. */
        private static final int[] BODIES = {
            10, 11, 12,
            20, 0, 0,
            0, 50, 0,
            0, 60, 0,
            70, 0, 71,
            0, 30, 0,
            40, 0, 41
        };

        private final int[] bodies = new int[KEPT];
        private int ran;
        private int number;
        private int kind;
        private int weight;

        void forget() {
            ran = 0;
        }

        int bodyThatRan(int i) {
            return i >= 0 && i < ran && i < KEPT ? bodies[i] : NONE;
        }

        int perform(int thing, int itsKind, int itsWeight, int act, int x) {
            ran = 0;
            number = thing;
            kind = itsKind;
            weight = itsWeight;
            return run(itsKind, act, x, 0);
        }

        private void begin(int body) {
            if (ran < KEPT) {
                bodies[ran] = body;
            }
            ran++;
        }

        /** The KIND, from this one up, that has a body of its own for an ACT: THING has all. */
        private static int homeOf(int from, int act) {
            int home = from;
            for (int up = 0; up < KINDS && isKind(home); up++) {
                if (bodyAt(home, act) != 0) {
                    return home;
                }
                home = ABOVE[home];
            }
            return THING;
        }

        private static int bodyAt(int home, int act) {
            int at = home * ACTS + act;
            return at >= 0 && at < BODIES.length ? BODIES[at] : 0;
        }

        private int run(int from, int act, int x, int depth) {
            if (depth > DEEPEST) {
                return 0;
            }
            int home = homeOf(from, act);
            int up = isKind(home) ? ABOVE[home] : NONE;
            int body = bodyAt(home, act);
            int deeper = depth + 1;
            begin(body);
            switch (body) {
                case 10: return x + number;
                case 11: return run(kind, GOES, x, deeper) * 2;
                case 12: return run(kind, RESTS, x, deeper) ^ run(kind, GOES, x - weight, deeper);
                case 20: return run(up, GOES, x, deeper) + weight;
                case 30: return run(up, RESTS, x, deeper) * 3;
                case 40: return run(up, GOES, x + 1, deeper);
                case 41: return run(up, FALLS, x, deeper) - number;
                case 50: return -run(up, RESTS, x, deeper);
                case 60: return run(up, RESTS, x, deeper) ^ 5;
                case 70: return run(up, GOES, x, deeper) * 2;
                case 71: return run(up, FALLS, x - weight, deeper);
                default: return 0;
            }
        }
    }
}
