import java.util.Arrays;

/**
 * Two ropes and four dancers at the corners of a square. How the ropes are tangled is one number, a fraction.
 * What every call answers is said, promise by promise, in the document (see README.md).
 */
public final class TwoRopes {
    public static final int NONE = -1;

    private static final int MOST_SHELVES = 8;
    private static final int MOST_FIGURES = 8;
    private static final int MOST_ELEMENTS = 160;
    private static final int MOST_BODIES = 20;
    private static final int KINDS = 7;
    private static final int SORTS = 4;

    // The three STEPS, and the one that is forgotten.
    private static final int OVER = 0;
    private static final int UNDER = 1;
    private static final int ON = 2;
    private static final int EITHER = 3;

    // What P, Q may be in truth, and of two NUMBERS that are joined.
    private static final long MOST = 1000000000000L;
    private static final long MOST_JOINED = 1000000000L;

    private static final int LEAST_STEPS = 9;
    private static final int CHEAPEST_STEPS = 7;
    private static final int BAG_STEPS = 7;
    private static final int BAG_NUMBERS = 4;
    private static final int COUNTED_STEPS = 9;
    private static final int FREE_STEPS = 40;
    private static final int FORGOTTEN_STEPS = 40;
    private static final int FORGOTTEN_EITHER = 7;
    private static final int MOST_TIMES = 10000;

    // A bound for loops that end long before it, and one for P and Q that none of them comes near.
    private static final int ENOUGH = 1000;
    private static final long UNBOUNDED = 1000 * MOST;

    // The corners are as before after every ROUND_TRIP repetitions of a DANCE (4 dancers: any change of places
    // comes back after 1, 2, 3 or 4 times), and so is the NUMBER where it comes back at all (after 1, 2 or 3).
    private static final int ROUND_TRIP = 12;

    // REFUSALS.
    private static final int NOBODY = 1;
    private static final int OTHER = 2;
    private static final int NOTHING = 3;
    private static final int BELOW = 4;
    private static final int BEYOND = 5;
    private static final int WRONG = 6;
    private static final int ROOM = 7;
    private static final long FAR = -2000000000000L;
    private static final int TEN = -10;

    /** The KIND above each KIND. */
    private static final int[] ABOVE = {NONE, 0, 1, 1, 0, 4, 4};

    private final Shelf[] shelves = new Shelf[MOST_SHELVES];
    private final Dance[] figures = new Dance[MOST_FIGURES];
    private final int[] refusals = new int[ROOM + 1];
    /** THE TRACE: how many bodies ran, then the first of them. */
    private final int[] bodies = new int[1 + MOST_BODIES];
    private final Hall hall = new Hall();
    private final Hall pictured = new Hall();
    private final Hall trial = new Hall();
    private final Hall second = new Hall();
    private final Search search = new Search();
    private final Crowd crowd = new Crowd();
    private final Crowd nextCrowd = new Crowd();
    private boolean isPictured;
    private int faultPlace = NONE;

    public TwoRopes() {
        for (int s = 0; s < MOST_SHELVES; s++) {
            shelves[s] = new Shelf();
        }
    }

    // ---- SHELVES and ROWS ----

    public int row(int s, int sort, int n) {
        Shelf shelf = shelfAt(s);
        if (shelf == null) {
            return refuse(NOBODY);
        }
        if (n < 0) {
            return refuse(BELOW);
        }
        if (sort < 0 || sort >= SORTS) {
            return refuse(WRONG);
        }
        if (n > MOST_ELEMENTS) {
            return refuse(ROOM);
        }
        shelf.takeRow(sort, n);
        return 1;
    }

    public int set(int s, int i, long v) {
        int why = noRow(s);
        Shelf shelf = shelfAt(s);
        if (why != 0 || shelf == null) {
            return refuse(why);
        }
        if (!shelf.hasPlace(i)) {
            return refuse(BEYOND);
        }
        shelf.put(i, v);
        return 1;
    }

    public int copy(int p, int q, int i, int j, int n) {
        int why = firstOf(noRow(p), noRow(q));
        Shelf from = shelfAt(p);
        Shelf to = shelfAt(q);
        if (why != 0 || from == null || to == null) {
            return refuse(why);
        }
        if (from.sort != to.sort) {
            return refuse(OTHER);
        }
        if (n < 0) {
            return refuse(BELOW);
        }
        if (!from.hasPart(i, n) || !to.hasPart(j, n)) {
            return refuse(BEYOND);
        }
        System.arraycopy(from.cells, i, to.cells, j, n);
        return 1;
    }

    public long element(int s, int i) {
        Shelf shelf = shelfAt(s);
        return shelf == null ? 0 : shelf.whole(i);
    }

    public int show(int s, int figure) {
        Shelf shelf = shelfAt(s);
        if (shelf == null || (figure != NONE && figureAt(hall, figure) == null)) {
            return refuse(NOBODY);
        }
        shelf.takeFigure(figure);
        return figure == NONE ? 0 : 1;
    }

    public int holds(int s) {
        Shelf shelf = shelfAt(s);
        if (shelf == null) {
            return NONE;
        }
        return shelf.isRow() ? 100 + shelf.sort : shelf.figure;
    }

    public int says(int s, int kind) {
        Shelf shelf = shelfAt(s);
        if (shelf == null || !isKind(kind)) {
            return refuse(NOBODY);
        }
        if (shelf.isRow()) {
            return refuse(OTHER);
        }
        Dance dance = figureAt(hall, shelf.figure);
        if (dance == null) {
            return refuse(NOTHING);
        }
        if (!isUnder(dance.kind, kind)) {
            return refuse(OTHER);
        }
        return kind == 0 ? dance.cost : dance.saying();
    }

    // ---- FIGURES ----

    public int figure(int kind, int a, int cost) {
        if (!isKind(kind)) {
            return refuse(NOBODY);
        }
        if (!isA(a) || !isCost(cost)) {
            return refuse(WRONG);
        }
        if (hall.count >= MOST_FIGURES) {
            return refuse(ROOM);
        }
        addFigure(hall, kind, a, cost);
        return hall.count - 1;
    }

    public int figureOf(int figure, int what) {
        Dance dance = figureAt(hall, figure);
        if (dance == null || what < 0 || what > 2) {
            return refuse(BEYOND);
        }
        if (what == 0) {
            return dance.kind;
        }
        return what == 1 ? dance.a : dance.cost;
    }

    public int start(long p, long q) {
        if (!isNumber(p, q)) {
            return refuse(WRONG);
        }
        hall.become(p, q);
        return 1;
    }

    // ---- BARNS ----

    public int barn(int s) {
        int why = noRow(s);
        Shelf text = shelfAt(s);
        if (why != 0 || text == null) {
            return refuse(why);
        }
        trial.takeFrom(hall);
        text.open();
        int items = readItems(text);
        faultPlace = items == NONE ? text.faultAt : NONE;
        if (items == NONE) {
            return refuse(WRONG);
        }
        hall.takeFrom(trial);
        return items;
    }

    public int fault() {
        return faultPlace;
    }

    // ---- NOW ----

    public long now(int what) {
        if (what != 0 && what != 1) {
            return refuseFar(BEYOND);
        }
        return what == 0 ? hall.p : hall.q;
    }

    public int stand(int corner) {
        if (corner < 0 || corner >= hall.corners.length) {
            return refuse(BEYOND);
        }
        return hall.corners[corner];
    }

    public int call(int figure) {
        Dance dance = figureAt(hall, figure);
        if (dance == null) {
            return refuse(NOBODY);
        }
        return hall.dance(dance) ? hall.steps : refuse(ROOM);
    }

    // ---- DANCES ----

    public int judge(int s, int n) {
        int why = noPart(s, n);
        if (why != 0) {
            return refuse(why);
        }
        int place = tryRow(trial, s, n);
        return place < n ? place : NONE;
    }

    public long told(int s, int n, int what) {
        int why = noPart(s, n);
        if (why == 0 && (what < 0 || what > 6)) {
            why = BEYOND;
        }
        if (why == 0 && tryRow(trial, s, n) < n) {
            why = WRONG;
        }
        if (why != 0) {
            return refuseFar(why);
        }
        if (what < 2) {
            return what == 0 ? trial.p : trial.q;
        }
        return what == 6 ? trial.spent - hall.spent : trial.corners[what - 2];
    }

    public int dances(int s, int n) {
        int why = noPart(s, n);
        if (why == 0 && tryRow(trial, s, n) < n) {
            why = WRONG;
        }
        if (why != 0) {
            return refuse(why);
        }
        hall.takeFrom(trial);
        return hall.steps;
    }

    public long repeated(int s, int n, int t, int what) {
        int why = noPart(s, n);
        if (why == 0 && (what < 0 || what > 2)) {
            why = BEYOND;
        }
        if (why == 0 && (t < 0 || t > MOST_TIMES || !areFigures(s, n))) {
            why = WRONG;
        }
        if (why == 0 && !tryOften(s, n, t)) {
            why = ROOM;
        }
        if (why != 0) {
            return refuseFar(why);
        }
        if (what == 2) {
            return trial.corners[0];
        }
        return what == 0 ? trial.p : trial.q;
    }

    public int same(int p, int q, int n, boolean stand) {
        int why = firstOf(noPart(p, n), noPart(q, n));
        if (why == 0 && (tryRow(trial, p, n) < n || tryRow(second, q, n) < n)) {
            why = WRONG;
        }
        if (why != 0) {
            return refuse(why);
        }
        boolean alike = trial.p == second.p && trial.q == second.q;
        return alike && (!stand || trial.standsLike(second)) ? 1 : 0;
    }

    // ---- undone and made ----

    public long undo() {
        return undoing(hall.p, hall.q, NONE);
    }

    public int undoes(long i) {
        long step = i < 0 ? NONE : undoing(hall.p, hall.q, i);
        return step == NONE ? refuse(BEYOND) : (int) step;
    }

    public int made(long p, long q, long i) {
        if (!isNumber(p, q)) {
            return refuse(WRONG);
        }
        long count = undoing(p, q, NONE);
        if (i < 0 || i >= count) {
            return refuse(BEYOND);
        }
        return undoing(p, q, count - 1 - i) == OVER ? UNDER : ON;
    }

    public int least(long p, long q, int i) {
        if (!isNumber(p, q)) {
            return refuseTen(WRONG);
        }
        search.open(1, 1, 1);
        search.add(0, 1);
        search.find(0, p, q, LEAST_STEPS);
        return i == NONE && search.isFound() ? search.bestLength : foundStep(i);
    }

    public int cheapest(long p, long q, int x, int y, int z, int i) {
        if (!isNumber(p, q) || !isCost(x) || !isCost(y) || !isCost(z)) {
            return refuseTen(WRONG);
        }
        search.open(x, y, z);
        search.add(0, 1);
        search.find(0, p, q, CHEAPEST_STEPS);
        return i == NONE && search.isFound() ? search.bestCost : foundStep(i);
    }

    // ---- joined and closed ----

    public long side(long p, long q, int what) {
        int why = notJoined(p, q, what);
        if (why != 0) {
            return refuseFar(why);
        }
        trial.become(hall.p, hall.q);
        trial.join(p, q);
        return joined(what);
    }

    public long over(long p, long q, int what) {
        int why = notJoined(p, q, what);
        if (why != 0) {
            return refuseFar(why);
        }
        trial.become(hall.p, hall.q);
        trial.turnOver();
        second.become(p, q);
        second.turnOver();
        trial.join(second.p, second.q);
        trial.turnOver();
        return joined(what);
    }

    public int closed(boolean other) {
        return ((other ? hall.q : hall.p) & 1) == 0 ? 2 : 1;
    }

    public long coloured(int n) {
        if (n < 2 || n > 99) {
            return refuse(WRONG);
        }
        return n * divisor(Math.abs(hall.p), n);
    }

    // ---- forgotten, kept, by lot ----

    public int forgot(int s, int n) {
        int why = noPart(s, n);
        if (why == 0) {
            why = noForgotten(s, n);
        }
        Crowd found = why == 0 ? forget(s, n) : null;
        if (found == null) {
            return refuse(why == 0 ? ROOM : why);
        }
        return found.size;
    }

    public long may(int s, int n, int what) {
        int why = noPart(s, n);
        if (why == 0 && (what < 0 || what > 3)) {
            why = BEYOND;
        }
        if (why == 0) {
            why = noForgotten(s, n);
        }
        Crowd found = why == 0 ? forget(s, n) : null;
        if (found == null) {
            return refuseFar(why == 0 ? ROOM : why);
        }
        int i = what < 2 ? found.outermost(-1) : found.outermost(1);
        return what == 0 || what == 2 ? found.ps[i] : found.qs[i];
    }

    public int kept(int n, long b) {
        if (n < 0 || n > COUNTED_STEPS || b < 1 || b > 1000000) {
            return refuse(WRONG);
        }
        return rowsOf(n, b).allRows();
    }

    public int lot(int n, long p, long q) {
        if (n < 0 || n > COUNTED_STEPS || !isNumber(p, q)) {
            return refuse(WRONG);
        }
        return rowsOf(n, UNBOUNDED).rowsTo(p, q);
    }

    public int bag(int s, int n, int k, int i) {
        int why = noRow(s);
        Shelf shelf = shelfAt(s);
        if (why != 0 || shelf == null) {
            return refuseTen(why);
        }
        if (n < 0) {
            return refuseTen(BELOW);
        }
        if (2L * n > shelf.size) {
            return refuseTen(BEYOND);
        }
        if (n == 0 || n > BAG_NUMBERS || k < 0 || k >= n) {
            return refuseTen(WRONG);
        }
        search.open(1, 1, 1);
        for (int number = 0; number < n; number++) {
            long p = shelf.whole(2 * number);
            long q = shelf.whole(2 * number + 1);
            if (!isNumber(p, q)) {
                return refuseTen(WRONG);
            }
            search.add(p, q);
        }
        search.find(k, 0, 1, BAG_STEPS);
        return i == NONE && search.isFound() ? search.bestLength : foundStep(i);
    }

    // ---- in truth, by draws ----

    public int frees(int n) {
        if (n < 0 || n > FREE_STEPS) {
            return refuse(WRONG);
        }
        int done = 0;
        while (done < n && hall.p != 0 && hall.step(undoStep(hall.p))) {
            done++;
        }
        return done;
    }

    public int draws(int n) {
        if (n < 1 || n > FREE_STEPS) {
            return refuse(WRONG);
        }
        int done = 0;
        while (done < n && hall.step(hall.draw(3))) {
            done++;
        }
        return done;
    }

    public int seed(int v) {
        int was = hall.seed;
        hall.seed = v;
        return was;
    }

    // ---- ACTS ----

    public int act(int figure, int act, int x) {
        bodies[0] = 0;
        Dance dance = figureAt(hall, figure);
        if (dance == null) {
            return 0;
        }
        switch (act) {
            case 0:
                return dance.calls(x);
            case 1:
                return dance.steps(x);
            case 2:
                return dance.knots(x);
            default:
                return 0;
        }
    }

    public int trace(int i) {
        return i >= 0 && i < bodies[0] && i < MOST_BODIES ? bodies[1 + i] : NONE;
    }

    // ---- THE IMAGE ----

    public int image() {
        pictured.takeFrom(hall);
        isPictured = true;
        return hall.count;
    }

    public int restore() {
        if (!isPictured) {
            return refuse(WRONG);
        }
        // FIGURES are only ever added, so that those of THE IMAGE are still the first ones.
        hall.takeFrom(pictured);
        for (int s = 0; s < MOST_SHELVES; s++) {
            Shelf shelf = shelves[s];
            if (shelf != null && shelf.figure >= hall.count) {
                shelf.takeFigure(NONE);
            }
        }
        return hall.count;
    }

    public int status(int what) {
        switch (what) {
            case 0:
                return hall.count;
            case 1:
                return hall.steps;
            case 2:
                return hall.spent;
            case 3:
                return hall.seed;
            case 4:
                return bodies[0];
            default:
                return what > 10 && what <= 10 + ROOM ? refusals[what - 10] : NONE;
        }
    }

    // ---- REFUSALS and what is asked ahead of them ----

    private int refuse(int why) {
        if (why >= 0 && why < refusals.length) {
            refusals[why]++;
        }
        return -why;
    }

    private long refuseFar(int why) {
        return FAR + refuse(why);
    }

    private int refuseTen(int why) {
        return TEN + refuse(why);
    }

    /** Of two REFUSALS (0: none) the one that comes first. */
    private static int firstOf(int one, int another) {
        if (one == 0 || another == 0) {
            return one + another;
        }
        return Math.min(one, another);
    }

    private Shelf shelfAt(int s) {
        return s >= 0 && s < MOST_SHELVES ? shelves[s] : null;
    }

    private Dance figureAt(Hall there, int figure) {
        return figure >= 0 && figure < there.count && figure < MOST_FIGURES ? figures[figure] : null;
    }

    /** Why SHELF s is none with a ROW (0: it is one). */
    private int noRow(int s) {
        Shelf shelf = shelfAt(s);
        if (shelf == null) {
            return NOBODY;
        }
        if (shelf.isRow()) {
            return 0;
        }
        return shelf.figure == NONE ? NOTHING : OTHER;
    }

    /** Why SHELF s has no first n elements (0: it has). */
    private int noPart(int s, int n) {
        int why = noRow(s);
        Shelf shelf = shelfAt(s);
        if (why != 0 || shelf == null) {
            return why;
        }
        if (n < 0) {
            return BELOW;
        }
        return n > shelf.size ? BEYOND : 0;
    }

    private static boolean isKind(int kind) {
        return kind >= 0 && kind < KINDS;
    }

    private static boolean isA(int a) {
        return a >= 0 && a <= 9;
    }

    private static boolean isCost(int cost) {
        return cost >= 1 && cost <= 9;
    }

    private static boolean isUnder(int kind, int wanted) {
        int at = kind;
        for (int up = 0; up < KINDS && isKind(at) && at != wanted; up++) {
            at = ABOVE[at];
        }
        return at == wanted;
    }

    private static boolean isNumber(long p, long q) {
        if (q < 0 || isWide(p, q, MOST)) {
            return false;
        }
        return q == 0 ? p == 1 : divisor(Math.abs(p), q) == 1;
    }

    /** Whether P or Q, whatever its sign, is above the most. */
    private static boolean isWide(long p, long q, long most) {
        return p > most || p < -most || q > most || q < -most;
    }

    // ---- NUMBERS ----

    /** The greatest number that divides both (neither below 0). */
    private static long divisor(long one, long another) {
        long a = one;
        long b = another;
        for (int i = 0; i < ENOUGH && b != 0; i++) {
            long rest = a % b;
            a = b;
            b = rest;
        }
        return a;
    }

    private static long stepP(int step, long p, long q) {
        if (step == OVER) {
            return p + q;
        }
        if (step == UNDER) {
            return p - q;
        }
        if (p == 0) {
            return 1;
        }
        return p > 0 ? -q : q;
    }

    private static long stepQ(int step, long p, long q) {
        return step == ON ? Math.abs(p) : q;
    }

    /** Below 0, 0 or above: how P by Q stands to another NUMBER (their products could pass a long). */
    private static int compare(long p, long q, long otherP, long otherQ) {
        long a = p;
        long b = q;
        long c = otherP;
        long d = otherQ;
        int sign = 1;
        for (int i = 0; i < ENOUGH && b != 0 && d != 0; i++) {
            long whole = Math.floorDiv(a, b);
            long otherWhole = Math.floorDiv(c, d);
            if (whole != otherWhole) {
                return sign * Long.compare(whole, otherWhole);
            }
            long rest = a - whole * b;
            long otherRest = c - whole * d;
            // What is left of both is below 1, and stands to one another the other way when turned over.
            a = b;
            b = rest;
            c = d;
            d = otherRest;
            sign = -sign;
        }
        return sign * Integer.compare(b == 0 ? 1 : 0, d == 0 ? 1 : 0);
    }

    /** The first STEP of UNDO of a NUMBER that isn't 0. */
    private static int undoStep(long p) {
        return p < 0 ? OVER : ON;
    }

    /**
     * UNDO of P by Q: the STEP at a place (NONE: no such place); with place NONE how many STEPS there are.
     * There may be three million million of them, so they are counted by runs of STEPS.
     */
    private static long undoing(long fromP, long fromQ, long place) {
        long p = fromP;
        long q = fromQ;
        long left = place;
        long count = 0;
        for (int i = 0; i < ENOUGH && p != 0; i++) {
            long gap = q - p;
            long run;
            if (p < 0 && q > 0) {
                run = (q - 1 - p) / q;
                p += run * q;
                if (left >= 0 && left < run) {
                    return OVER;
                }
            } else if (gap > 0 && q / gap > 1) {
                // On, over, over makes P and Q each less by their gap, as long as P doesn't come below 0.
                long rounds = q / gap - 1;
                run = 3 * rounds;
                p -= rounds * gap;
                q -= rounds * gap;
                if (left >= 0 && left < run) {
                    return left % 3 == 0 ? ON : OVER;
                }
            } else {
                long turned = p;
                run = 1;
                p = -q;
                q = turned;
                if (left == 0) {
                    return ON;
                }
            }
            count += run;
            left = place == NONE ? NONE : left - run;
        }
        return place == NONE ? count : NONE;
    }

    /** The i-th STEP of what was searched for. */
    private int foundStep(int i) {
        if (!search.isFound() || i < 0 || i >= search.bestLength || i >= search.best.length) {
            return refuseTen(BEYOND);
        }
        return search.best[i];
    }

    private int notJoined(long p, long q, int what) {
        if (what != 0 && what != 1) {
            return BEYOND;
        }
        if (!isNumber(p, q)) {
            return WRONG;
        }
        return isWide(p, q, MOST_JOINED) || isWide(hall.p, hall.q, MOST_JOINED) ? ROOM : 0;
    }

    private long joined(int what) {
        if (isWide(trial.p, trial.q, MOST)) {
            return refuseFar(ROOM);
        }
        return what == 0 ? trial.p : trial.q;
    }

    // ---- FIGURES that are made, DANCES that are tried ----

    private void addFigure(Hall there, int kind, int a, int cost) {
        int number = there.count;
        if (number >= 0 && number < MOST_FIGURES) {
            figures[number] = newFigure(kind, number, a, cost);
            there.count++;
        }
    }

    private Dance newFigure(int kind, int number, int a, int cost) {
        switch (kind) {
            case 1:
                return new Change(kind, number, a, cost, bodies);
            case 2:
                return new Under(kind, number, a, cost, bodies);
            case 3:
                return new Many(kind, number, a, cost, bodies);
            case 4:
                return new Turn(kind, number, a, cost, bodies);
            case 5:
                return new Back(kind, number, a, cost, bodies);
            case 6:
                return new Round(kind, number, a, cost, bodies);
            default:
                return new Dance(kind, number, a, cost, bodies);
        }
    }

    private boolean areFigures(int s, int n) {
        Shelf shelf = shelfAt(s);
        boolean are = shelf != null;
        for (int i = 0; are && i < n; i++) {
            are = figureAt(hall, shelf.asInt(i)) != null;
        }
        return are;
    }

    /** Dances the first n elements in a hall that is as it is now; the place at which it stops (n: none). */
    private int tryRow(Hall there, int s, int n) {
        there.takeFrom(hall);
        return goOn(there, s, n, 1);
    }

    private int goOn(Hall there, int s, int n, int times) {
        Shelf shelf = shelfAt(s);
        int i = n;
        for (int time = 0; i == n && time < times; time++) {
            i = 0;
            while (shelf != null && i < n && there.dance(figureAt(there, shelf.asInt(i)))) {
                i++;
            }
        }
        return i;
    }

    /**
     * REPEATED, in the trial hall; false if there is no ROOM. Where the NUMBER goes on by the same from round trip to
     * round trip, all but the first and the last of them are left out: P and Q at each place of the DANCE are then
     * furthest from 0 in the first repetition or in the last.
     */
    private boolean tryOften(int s, int n, int t) {
        trial.takeFrom(hall);
        int left = t;
        if (t > 3 * ROUND_TRIP) {
            if (goOn(trial, s, n, ROUND_TRIP) < n) {
                return false;
            }
            second.become(trial.p, trial.q);
            if (goOn(trial, s, n, ROUND_TRIP) < n) {
                return false;
            }
            left -= 2 * ROUND_TRIP;
            int sign = signOfStraight();
            if (sign != 0) {
                int trips = (left - 1) / ROUND_TRIP;
                left -= trips * ROUND_TRIP;
                trial.becomeEither(straightOn(hall.p, sign * second.p, trips + 2),
                        straightOn(hall.q, sign * second.q, trips + 2));
            }
        }
        return !isWide(trial.p, trial.q, MOST) && goOn(trial, s, n, left) == n;
    }

    /** The sign of the second NUMBER with which now, second and trial (of either sign) go on by the same; 0: none. */
    private int signOfStraight() {
        for (int sign = 1; sign >= -1; sign -= 2) {
            long p = straightOn(hall.p, sign * second.p, 2);
            long q = straightOn(hall.q, sign * second.q, 2);
            if ((p == trial.p && q == trial.q) || (p == -trial.p && q == -trial.q)) {
                return sign;
            }
        }
        return 0;
    }

    private static long straightOn(long from, long next, int times) {
        return from + times * (next - from);
    }

    // ---- what it may be ----

    private int noForgotten(int s, int n) {
        Shelf shelf = shelfAt(s);
        if (shelf == null || n > FORGOTTEN_STEPS) {
            return WRONG;
        }
        int forgotten = 0;
        for (int i = 0; i < n; i++) {
            int step = shelf.asInt(i);
            if (step < OVER || step > EITHER) {
                return WRONG;
            }
            if (step == EITHER) {
                forgotten++;
            }
        }
        return forgotten > FORGOTTEN_EITHER ? ROOM : 0;
    }

    /** The NUMBERS that it may be; null: there is no ROOM. */
    private Crowd forget(int s, int n) {
        Shelf shelf = shelfAt(s);
        Crowd from = crowd;
        Crowd to = nextCrowd;
        from.begin(hall);
        for (int i = 0; shelf != null && i < n; i++) {
            int step = shelf.asInt(i);
            to.clear();
            to.addStepped(from, step == EITHER ? OVER : step, MOST);
            if (step == EITHER) {
                to.addStepped(from, UNDER, MOST);
            }
            if (to.isLess) {
                return null;
            }
            Crowd done = from;
            from = to;
            to = done;
        }
        return from;
    }

    /** Where all rows of n STEPS end of which none makes P or Q wider than the most. */
    private Crowd rowsOf(int n, long most) {
        Crowd from = crowd;
        Crowd to = nextCrowd;
        from.begin(hall);
        for (int i = 0; i < n; i++) {
            to.clear();
            for (int step = OVER; step <= ON; step++) {
                to.addStepped(from, step, most);
            }
            Crowd done = from;
            from = to;
            to = done;
        }
        return from;
    }

    // ---- BARNS that are read ----

    /** How many ITEMS there are, told in the trial hall; NONE: a FAULT. */
    private int readItems(Shelf text) {
        for (int items = 1; items <= MOST_ELEMENTS; items++) {
            if (!readItem(text)) {
                return NONE;
            }
            if (text.isRead()) {
                return items;
            }
            if (!text.reads(';')) {
                return NONE;
            }
        }
        return NONE;
    }

    private boolean readItem(Shelf text) {
        int place = text.at;
        switch (text.asInt(place)) {
            case 'f':
                return text.readsWord("figure") && text.fits(place, trial.count < MOST_FIGURES) && readFigure(text);
            case 'c':
                return text.readsWord("call") && readCall(text);
            case 's':
                return text.readsWord("start") && readStart(text);
            default:
                return text.fits(place, false);
        }
    }

    private boolean readFigure(Shelf text) {
        int kind = text.readNumber();
        if (kind == NONE || !text.fits(text.firstDigit, isKind(kind))) {
            return false;
        }
        int a = text.readNumber();
        if (a == NONE || !text.fits(text.firstDigit, isA(a))) {
            return false;
        }
        int cost = text.readNumber();
        if (cost == NONE || !text.fits(text.firstDigit, isCost(cost))) {
            return false;
        }
        addFigure(trial, kind, a, cost);
        return true;
    }

    private boolean readCall(Shelf text) {
        int figure = text.readNumber();
        return figure != NONE && text.fits(text.firstDigit, trial.dance(figureAt(trial, figure)));
    }

    private boolean readStart(Shelf text) {
        int p = text.readNumber();
        int q = p == NONE ? NONE : text.readNumber();
        if (q == NONE || !text.fits(text.firstDigit, isNumber(p, q))) {
            return false;
        }
        trial.become(p, q);
        return true;
    }

    /** A SHELF: NOTHING, a FIGURE's number, or a ROW, which may be read as a text. */
    private static final class Shelf {
        private final long[] cells = new long[MOST_ELEMENTS];
        private int sort = NONE;
        private int size;
        private int figure = NONE;
        private int at;
        private int firstDigit;
        private int faultAt = NONE;

        boolean isRow() {
            return sort != NONE;
        }

        void takeRow(int newSort, int newSize) {
            sort = newSort;
            size = newSize;
            figure = NONE;
            Arrays.fill(cells, 0L);
        }

        void takeFigure(int newFigure) {
            sort = NONE;
            size = 0;
            figure = newFigure;
        }

        boolean hasPlace(int i) {
            return i >= 0 && i < size && i < cells.length;
        }

        boolean hasPart(int from, int n) {
            return from >= 0 && n >= 0 && (long) from + n <= size;
        }

        long whole(int i) {
            return hasPlace(i) ? cells[i] : 0;
        }

        int asInt(int i) {
            return i >= 0 && i < size && i < cells.length ? (int) cells[i] : 0;
        }

        void put(int i, long v) {
            if (hasPlace(i)) {
                cells[i] = cut(v);
            }
        }

        private long cut(long v) {
            switch (sort) {
                case 0:
                    return (byte) v;
                case 1:
                    return (short) v;
                case 2:
                    return (int) v;
                default:
                    return v;
            }
        }

        void open() {
            at = 0;
            faultAt = NONE;
        }

        boolean isRead() {
            return at >= size;
        }

        /** Whether something may be; if not, the FAULT is at the place. */
        boolean fits(int place, boolean it) {
            if (!it) {
                faultAt = place;
            }
            return it;
        }

        boolean reads(char letter) {
            if (!fits(at, !isRead() && asInt(at) == letter)) {
                return false;
            }
            at++;
            return true;
        }

        boolean readsWord(String word) {
            for (int i = 0; i < word.length(); i++) {
                if (!reads(word.charAt(i))) {
                    return false;
                }
            }
            return true;
        }

        /** A blank and a NUMBER of 1 to 3 digits; NONE: a FAULT. */
        int readNumber() {
            if (!reads(' ')) {
                return NONE;
            }
            firstDigit = at;
            int number = 0;
            while (at < firstDigit + 3 && !isRead() && asInt(at) >= '0' && asInt(at) <= '9') {
                number = number * 10 + asInt(at) - '0';
                at++;
            }
            return fits(at, at > firstDigit) ? number : NONE;
        }
    }

    /** What THE IMAGE has: the NUMBER, STAND, STEPS, SPENT, SEED, and how many FIGURES there are. */
    private static final class Hall {
        private final int[] corners = {0, 1, 2, 3};
        private long p;
        private long q = 1;
        private int count;
        private int steps;
        private int spent;
        private int seed = 1;

        void takeFrom(Hall other) {
            System.arraycopy(other.corners, 0, corners, 0, corners.length);
            p = other.p;
            q = other.q;
            count = other.count;
            steps = other.steps;
            spent = other.spent;
            seed = other.seed;
        }

        void become(long newP, long newQ) {
            p = newP;
            q = newQ;
        }

        /** Becomes P by Q, or that with both signs the other way: Q is not below 0, nor P of BEYOND. */
        void becomeEither(long newP, long newQ) {
            boolean isOtherWay = newQ < 0 || (newQ == 0 && newP < 0);
            become(isOtherWay ? -newP : newP, isOtherWay ? -newQ : newQ);
        }

        boolean standsLike(Hall other) {
            boolean like = true;
            for (int i = 0; i < corners.length && i < other.corners.length; i++) {
                like = like && corners[i] == other.corners[i];
            }
            return like;
        }

        /** A FIGURE is danced, if there is one and there is ROOM. */
        boolean dance(Dance figure) {
            if (figure == null || !figure.move(this)) {
                return false;
            }
            steps++;
            spent += figure.cost;
            return true;
        }

        /** One of the three STEPS is danced, if there is ROOM. */
        boolean step(int step) {
            if (step == ON) {
                turn(1);
            } else if (!change(step == OVER ? 1 : -1)) {
                return false;
            }
            steps++;
            spent++;
            return true;
        }

        /** The NUMBER is more by so much, if there is ROOM; as often the two on the right change. */
        boolean change(int more) {
            long moreP = p + more * q;
            if (moreP > MOST || moreP < -MOST) {
                return false;
            }
            p = moreP;
            if ((more & 1) != 0) {
                int dancer = corners[1];
                corners[1] = corners[2];
                corners[2] = dancer;
            }
            return true;
        }

        void turn(int times) {
            if ((times & 1) != 0) {
                become(stepP(ON, p, q), stepQ(ON, p, q));
            }
            for (int i = 0; i < (times & 3); i++) {
                int dancer = corners[3];
                corners[3] = corners[2];
                corners[2] = corners[1];
                corners[1] = corners[0];
                corners[0] = dancer;
            }
        }

        /** Side by side with another NUMBER. */
        void join(long otherP, long otherQ) {
            long newP = p * otherQ + otherP * q;
            long newQ = q * otherQ;
            long common = divisor(Math.abs(newP), newQ);
            if (newQ == 0 || common == 0) {
                become(1, 0);
            } else {
                become(newP / common, newQ / common);
            }
        }

        /** Turned over without a minus. */
        void turnOver() {
            if (p == 0) {
                become(1, 0);
            } else {
                become(p < 0 ? -q : q, Math.abs(p));
            }
        }

        int draw(int below) {
            seed = seed * 1103515245 + 12345;
            return below > 0 ? (seed >>> 16) % below : 0;
        }
    }

    /** A FIGURE of KIND 0; the classes below it are the KINDS under it. */
    private static class Dance {
        final int kind;
        final int number;
        final int a;
        final int cost;
        private final int[] bodies;

        Dance(int kind, int number, int a, int cost, int[] bodies) {
            this.kind = kind;
            this.number = number;
            this.a = a;
            this.cost = cost;
            this.bodies = bodies;
        }

        /** Moves dancers and NUMBER; false: there is no ROOM, and nothing was moved. */
        boolean move(Hall hall) {
            return true;
        }

        /** What it says when it is taken for one of another KIND than DANCE. */
        int saying() {
            return cost;
        }

        final void ran(int body) {
            bodies[0]++;
            if (bodies[0] > 0 && bodies[0] < bodies.length) {
                bodies[bodies[0]] = body;
            }
        }

        int calls(int x) {
            ran(10);
            return x + number;
        }

        int steps(int x) {
            ran(11);
            return calls(x) * 2;
        }

        int knots(int x) {
            ran(12);
            return steps(x) ^ calls(x - a);
        }
    }

    private static class Change extends Dance {
        Change(int kind, int number, int a, int cost, int[] bodies) {
            super(kind, number, a, cost, bodies);
        }

        /** By how much the NUMBER is more. */
        int more() {
            return 1;
        }

        boolean move(Hall hall) {
            return hall.change(more());
        }

        int saying() {
            return more() < 0 ? 10 + more() : more();
        }

        int calls(int x) {
            ran(20);
            return super.calls(x) + a;
        }
    }

    private static final class Under extends Change {
        Under(int kind, int number, int a, int cost, int[] bodies) {
            super(kind, number, a, cost, bodies);
        }

        int more() {
            return -1;
        }

        int steps(int x) {
            ran(30);
            return super.steps(x) * 3;
        }
    }

    private static final class Many extends Change {
        Many(int kind, int number, int a, int cost, int[] bodies) {
            super(kind, number, a, cost, bodies);
        }

        int more() {
            return a;
        }

        int steps(int x) {
            ran(40);
            return super.steps(x + 1);
        }

        int knots(int x) {
            ran(41);
            return super.knots(x) - number;
        }
    }

    private static class Turn extends Dance {
        Turn(int kind, int number, int a, int cost, int[] bodies) {
            super(kind, number, a, cost, bodies);
        }

        /** As how many TURNS it is. */
        int turns() {
            return 1;
        }

        boolean move(Hall hall) {
            hall.turn(turns());
            return true;
        }

        int saying() {
            return turns() & 3;
        }

        int knots(int x) {
            ran(50);
            return -super.knots(x);
        }
    }

    private static final class Back extends Turn {
        Back(int kind, int number, int a, int cost, int[] bodies) {
            super(kind, number, a, cost, bodies);
        }

        /** Three corners on is one back, and a NUMBER turned over three times is as once. */
        int turns() {
            return 3;
        }

        int calls(int x) {
            ran(60);
            return super.calls(x) * 2;
        }
    }

    private static final class Round extends Turn {
        Round(int kind, int number, int a, int cost, int[] bodies) {
            super(kind, number, a, cost, bodies);
        }

        int turns() {
            return a;
        }

        int knots(int x) {
            ran(70);
            return super.knots(x) ^ 5;
        }

        int steps(int x) {
            ran(71);
            return super.steps(x - a);
        }
    }

    /** The row of STEPS that brings NUMBERS to a goal at the least cost; of several that of the fewest, then the first. */
    private static final class Search {
        private final long[] ps = new long[(LEAST_STEPS + 1) * BAG_NUMBERS];
        private final long[] qs = new long[(LEAST_STEPS + 1) * BAG_NUMBERS];
        private final int[] costs = new int[3];
        private final int[] way = new int[LEAST_STEPS];
        private final int[] best = new int[LEAST_STEPS];
        private int numbers;
        private int wanted;
        private long goalP;
        private long goalQ;
        private int mostSteps;
        private int bestCost;
        private int bestLength;

        void open(int over, int under, int on) {
            costs[OVER] = over;
            costs[UNDER] = under;
            costs[ON] = on;
            numbers = 0;
            bestCost = ENOUGH;
            bestLength = NONE;
        }

        void add(long p, long q) {
            if (numbers < BAG_NUMBERS) {
                ps[numbers] = p;
                qs[numbers] = q;
                numbers++;
            }
        }

        boolean isFound() {
            return bestLength != NONE;
        }

        /** The wanted one of the NUMBERS is to come to P by Q, and none of the others is. */
        void find(int which, long p, long q, int most) {
            wanted = which;
            goalP = p;
            goalQ = q;
            mostSteps = Math.min(most, LEAST_STEPS);
            walk(0, 0);
        }

        private void walk(int depth, int cost) {
            if (cost > bestCost || (cost == bestCost && depth >= bestLength)) {
                return;
            }
            if (isThere(depth)) {
                keep(depth, cost);
                return;
            }
            for (int step = OVER; step <= ON; step++) {
                walkOn(depth, cost, step);
            }
        }

        private void walkOn(int depth, int cost, int step) {
            if (depth < mostSteps && depth < way.length && !isUndone(depth, step)) {
                way[depth] = step;
                stepAll(depth, step);
                walk(depth + 1, cost + costs[step]);
            }
        }

        /** Whether a STEP only takes back the one ahead of it: no row that is searched for does. */
        private boolean isUndone(int depth, int step) {
            if (depth <= 0 || depth > way.length) {
                return false;
            }
            int last = way[depth - 1];
            return step == ON ? last == ON : step + last == OVER + UNDER;
        }

        private boolean isThere(int depth) {
            int base = depth * BAG_NUMBERS;
            boolean there = depth <= LEAST_STEPS;
            for (int i = 0; there && i < numbers; i++) {
                boolean isGoal = ps[base + i] == goalP && qs[base + i] == goalQ;
                there = isGoal == (i == wanted);
            }
            return there;
        }

        private void stepAll(int depth, int step) {
            int base = depth * BAG_NUMBERS;
            for (int i = 0; depth < LEAST_STEPS && i < numbers; i++) {
                ps[base + BAG_NUMBERS + i] = stepP(step, ps[base + i], qs[base + i]);
                qs[base + BAG_NUMBERS + i] = stepQ(step, ps[base + i], qs[base + i]);
            }
        }

        private void keep(int depth, int cost) {
            bestCost = cost;
            bestLength = depth;
            if (depth <= best.length) {
                System.arraycopy(way, 0, best, 0, depth);
            }
        }
    }

    /** Unlike NUMBERS, each with how many rows come to it. */
    private static final class Crowd {
        // All rows of 9 STEPS come to 285 unlike NUMBERS at most, 7 STEPS that were forgotten to 128.
        private static final int MOST_NUMBERS = 320;
        private static final int SLOTS = 1024;
        private static final int SLOT_SHIFT = 54;

        private final long[] ps = new long[MOST_NUMBERS];
        private final long[] qs = new long[MOST_NUMBERS];
        private final int[] rows = new int[MOST_NUMBERS];
        /** By a NUMBER's slot: 1 and its place; 0: none. */
        private final int[] slots = new int[SLOTS];
        private int size;
        /** Whether some were left out, as they were too wide. */
        private boolean isLess;

        void clear() {
            Arrays.fill(slots, 0);
            size = 0;
            isLess = false;
        }

        void begin(Hall hall) {
            clear();
            add(hall.p, hall.q, 1);
        }

        void addStepped(Crowd from, int step, long most) {
            for (int i = 0; i < from.size && i < MOST_NUMBERS; i++) {
                long p = stepP(step, from.ps[i], from.qs[i]);
                long q = stepQ(step, from.ps[i], from.qs[i]);
                if (isWide(p, q, most)) {
                    isLess = true;
                } else {
                    add(p, q, from.rows[i]);
                }
            }
        }

        private void add(long p, long q, int more) {
            int slot = slotOf(p, q);
            int i = slots[slot] - 1;
            if (i >= 0 && i < size) {
                rows[i] += more;
            } else if (size < MOST_NUMBERS) {
                ps[size] = p;
                qs[size] = q;
                rows[size] = more;
                size++;
                slots[slot] = size;
            }
        }

        /** The slot of a NUMBER, or the free one in which it would stand. */
        private int slotOf(long p, long q) {
            int slot = (int) ((p * 31 + q) * 0x9E3779B97F4A7C15L >>> SLOT_SHIFT) & (SLOTS - 1);
            for (int i = 0; i < SLOTS; i++) {
                int there = slots[slot] - 1;
                if (there < 0 || there >= MOST_NUMBERS || (ps[there] == p && qs[there] == q)) {
                    return slot;
                }
                slot = (slot + 1) & (SLOTS - 1);
            }
            return slot;
        }

        int allRows() {
            int all = 0;
            for (int i = 0; i < size && i < MOST_NUMBERS; i++) {
                all += rows[i];
            }
            return all;
        }

        int rowsTo(long p, long q) {
            int i = slots[slotOf(p, q)] - 1;
            return i >= 0 && i < size ? rows[i] : 0;
        }

        /** The place of the least (direction -1) or the greatest (1); there is always one. */
        int outermost(int direction) {
            int found = 0;
            for (int i = 1; i < size && i < MOST_NUMBERS; i++) {
                if (direction * compare(ps[i], qs[i], ps[found], qs[found]) > 0) {
                    found = i;
                }
            }
            return found;
        }
    }
}
