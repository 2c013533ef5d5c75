import java.math.BigInteger;
import java.util.ArrayList;
import java.util.Arrays;
import java.util.List;
import java.util.TreeSet;

/** The document said once more in the plainest way, without any thought of speed: what TwoRopes is held against. */
public final class Plain {
    private static final long FAR = -2000000000000L;
    private static final long TRILLION = 1000000000000L;
    private static final int[] PARENT = {-1, 0, 1, 1, 0, 4, 4};

    /** A SHELF's content: a FIGURE (sort -1), a ROW, or (null) NOTHING. */
    private static final class Thing {
        int figure = -1;
        int sort = -1;
        long[] row;
    }

    /** P by Q and STAND, with what was danced. */
    private static final class Now {
        long p = 0;
        long q = 1;
        List<Integer> stand = new ArrayList<>(List.of(0, 1, 2, 3));
        int steps = 0;
        int spent = 0;
        int seed = 1;
        List<int[]> figures = new ArrayList<>();

        Now same() {
            Now now = new Now();
            now.p = p;
            now.q = q;
            now.stand = new ArrayList<>(stand);
            now.steps = steps;
            now.spent = spent;
            now.seed = seed;
            now.figures = new ArrayList<>(figures);
            return now;
        }
    }

    /** A refusal on its way to the call that answers it. */
    private static final class Refused extends RuntimeException {
        final int why;

        Refused(int why) {
            super(null, null, false, false);
            this.why = why;
        }
    }

    private interface Call {
        long answer();
    }

    private final Thing[] shelves = new Thing[8];
    private Now now = new Now();
    private Now image = null;
    private int fault = -1;
    private final int[] refusals = new int[8];
    private final List<Integer> trace = new ArrayList<>();

    private long ask(long base, Call call) {
        try {
            return call.answer();
        } catch (Refused refused) {
            refusals[refused.why]++;
            return base - refused.why;
        }
    }

    private int ask(Call call) {
        return (int) ask(0, call);
    }

    private static void unless(boolean holds, int why) {
        if (!holds) {
            throw new Refused(why);
        }
    }

    private static boolean in(long v, long from, long to) {
        return v >= from && v <= to;
    }

    private static boolean isNumber(long p, long q) {
        if (!in(p, -TRILLION, TRILLION) || !in(q, 0, TRILLION)) {
            return false;
        }
        return q == 0 ? p == 1 : BigInteger.valueOf(p).gcd(BigInteger.valueOf(q)).longValue() == 1;
    }

    private void needRows(int... numbers) {
        for (int s : numbers) {
            unless(in(s, 0, 7), 1);
        }
        for (int s : numbers) {
            unless(shelves[s] == null || shelves[s].row != null, 2);
        }
        for (int s : numbers) {
            unless(shelves[s] != null, 3);
        }
    }

    private long[] needPart(int s, int n) {
        needRows(s);
        unless(n >= 0, 4);
        unless(n <= shelves[s].row.length, 5);
        return Arrays.copyOf(shelves[s].row, n);
    }

    // ---- shelves ----

    public int row(int s, int sort, int n) {
        return ask(() -> {
            unless(in(s, 0, 7), 1);
            unless(n >= 0, 4);
            unless(in(sort, 0, 3), 6);
            unless(n <= 160, 7);
            shelves[s] = new Thing();
            shelves[s].sort = sort;
            shelves[s].row = new long[n];
            return 1;
        });
    }

    public int set(int s, int i, long v) {
        return ask(() -> {
            needRows(s);
            unless(in(i, 0, shelves[s].row.length - 1), 5);
            long[] cut = {(byte) v, (short) v, (int) v, v};
            shelves[s].row[i] = cut[shelves[s].sort];
            return 1;
        });
    }

    public int copy(int p, int q, int i, int j, int n) {
        return ask(() -> {
            unless(in(p, 0, 7) && in(q, 0, 7), 1);
            if (shelves[p] != null && shelves[q] != null) {
                unless(shelves[p].sort == shelves[q].sort, 2);
            }
            needRows(p, q);
            unless(n >= 0, 4);
            long[] from = shelves[p].row.clone();
            long[] to = shelves[q].row;
            unless(i >= 0 && j >= 0 && (long) i + n <= from.length && (long) j + n <= to.length, 5);
            for (int k = 0; k < n; k++) {
                to[j + k] = from[i + k];
            }
            return 1;
        });
    }

    public long element(int s, int i) {
        boolean is = in(s, 0, 7) && shelves[s] != null && shelves[s].row != null && in(i, 0, shelves[s].row.length - 1);
        return is ? shelves[s].row[i] : 0;
    }

    public int show(int s, int figure) {
        return ask(() -> {
            unless(in(s, 0, 7) && in(figure, -1, now.figures.size() - 1), 1);
            shelves[s] = null;
            if (figure == -1) {
                return 0;
            }
            shelves[s] = new Thing();
            shelves[s].figure = figure;
            return 1;
        });
    }

    public int holds(int s) {
        if (!in(s, 0, 7) || shelves[s] == null) {
            return -1;
        }
        return shelves[s].row != null ? 100 + shelves[s].sort : shelves[s].figure;
    }

    private static boolean isOf(int kind, int wanted) {
        return kind == wanted || kind > 0 && isOf(PARENT[kind], wanted);
    }

    public int says(int s, int kind) {
        return ask(() -> {
            unless(in(s, 0, 7) && in(kind, 0, 6), 1);
            unless(shelves[s] == null || shelves[s].row == null, 2);
            unless(shelves[s] != null, 3);
            int[] figure = now.figures.get(shelves[s].figure);
            unless(isOf(figure[0], kind), 2);
            if (kind == 0) {
                return figure[2];
            }
            int[] words = {0, 1, 9, figure[1], 1, 3, figure[1] % 4};
            return words[figure[0]];
        });
    }

    // ---- figures ----

    public int figure(int kind, int a, int cost) {
        return ask(() -> {
            unless(in(kind, 0, 6), 1);
            unless(in(a, 0, 9) && in(cost, 1, 9), 6);
            unless(now.figures.size() < 8, 7);
            now.figures.add(new int[] {kind, a, cost});
            return now.figures.size() - 1;
        });
    }

    public int figureOf(int figure, int what) {
        return ask(() -> {
            unless(in(figure, 0, now.figures.size() - 1) && in(what, 0, 2), 5);
            return now.figures.get(figure)[what];
        });
    }

    public int start(long p, long q) {
        return ask(() -> {
            unless(isNumber(p, q), 6);
            now.p = p;
            now.q = q;
            return 1;
        });
    }

    // ---- barns, by all texts that could go on ----

    public int barn(int s) {
        return ask(() -> {
            needRows(s);
            long[] row = shelves[s].row;
            int[] text = new int[row.length];
            for (int i = 0; i < row.length; i++) {
                text[i] = (int) row[i];
            }
            Now then = now.same();
            int items = 0;
            int at = 0;
            try {
                while (true) {
                    at = item(text, at, then);
                    items++;
                    if (at == text.length) {
                        break;
                    }
                    faultUnless(text[at] == ';', at);
                    at++;
                }
            } catch (Refused place) {
                fault = place.why;
                throw new Refused(6);
            }
            fault = -1;
            now = then;
            return items;
        });
    }

    private static void faultUnless(boolean holds, int place) {
        if (!holds) {
            throw new Refused(place);
        }
    }

    private static int item(int[] text, int from, Now then) {
        String[] words = {"figure", "call", "start"};
        String word = null;
        for (String each : words) {
            if (from < text.length && text[from] == each.charAt(0)) {
                word = each;
            }
        }
        faultUnless(word != null, from);
        int at = from;
        for (char letter : word.toCharArray()) {
            faultUnless(at < text.length && text[at] == letter, at);
            at++;
        }
        faultUnless(!word.equals("figure") || then.figures.size() < 8, from);
        int count = word.equals("figure") ? 3 : word.equals("call") ? 1 : 2;
        int[] numbers = new int[count];
        for (int k = 0; k < count; k++) {
            faultUnless(at < text.length && text[at] == ' ', at);
            at++;
            int first = at;
            String digits = "";
            while (at < text.length && digits.length() < 3 && in(text[at], '0', '9')) {
                digits += (char) text[at];
                at++;
            }
            faultUnless(!digits.isEmpty(), first);
            numbers[k] = Integer.parseInt(digits);
            boolean may = true;
            if (word.equals("figure")) {
                may = k == 0 ? numbers[k] <= 6 : k == 1 ? numbers[k] <= 9 : in(numbers[k], 1, 9);
            } else if (word.equals("call")) {
                may = numbers[0] < then.figures.size() && dance(then, numbers[0]);
            } else if (k == 1) {
                may = isNumber(numbers[0], numbers[1]);
            }
            faultUnless(may, first);
        }
        if (word.equals("figure")) {
            then.figures.add(numbers);
        } else if (word.equals("start")) {
            then.p = numbers[0];
            then.q = numbers[1];
        }
        return at;
    }

    public int fault() {
        return fault;
    }

    // ---- now, and what is danced ----

    public long now(int what) {
        return ask(FAR, () -> {
            unless(in(what, 0, 1), 5);
            return what == 0 ? now.p : now.q;
        });
    }

    public int stand(int corner) {
        return ask(() -> {
            unless(in(corner, 0, 3), 5);
            return now.stand.get(corner);
        });
    }

    private static long[] after(int step, long p, long q) {
        if (step == 2) {
            long[] turned = {-q, p};
            if (turned[1] < 0) {
                turned = new long[] {q, -p};
            }
            return turned[1] == 0 ? new long[] {1, 0} : turned;
        }
        return q == 0 ? new long[] {1, 0} : new long[] {step == 0 ? p + q : p - q, q};
    }

    /** One STEP; false if there is no ROOM. */
    private static boolean move(Now then, int step) {
        long[] number = after(step, then.p, then.q);
        if (!in(number[0], -TRILLION, TRILLION) || !in(number[1], 0, TRILLION)) {
            return false;
        }
        then.p = number[0];
        then.q = number[1];
        if (step == 2) {
            then.stand.add(0, then.stand.remove(3));
        } else {
            then.stand.set(1, then.stand.set(2, then.stand.get(1)));
        }
        return true;
    }

    private static boolean moves(Now then, int step, int times) {
        for (int i = 0; i < times; i++) {
            if (!move(then, step)) {
                return false;
            }
        }
        return true;
    }

    /** A FIGURE; false, and nothing becomes otherwise, if there is no such one or no ROOM. */
    private static boolean dance(Now then, int number) {
        if (!in(number, 0, then.figures.size() - 1)) {
            return false;
        }
        int[] figure = then.figures.get(number);
        Now before = then.same();
        boolean room = true;
        switch (figure[0]) {
            case 1: room = moves(then, 0, 1); break;
            case 2: room = moves(then, 1, 1); break;
            case 3: room = moves(then, 0, figure[1]); break;
            case 4: room = moves(then, 2, 1); break;
            case 5:
                long[] number2 = after(2, then.p, then.q);
                then.p = number2[0];
                then.q = number2[1];
                then.stand.add(then.stand.remove(0));
                break;
            case 6: room = moves(then, 2, figure[1]); break;
            default: break;
        }
        if (!room) {
            then.p = before.p;
            then.q = before.q;
            then.stand = before.stand;
            return false;
        }
        then.steps++;
        then.spent += figure[2];
        return true;
    }

    /** The place at which the DANCE stops. */
    private static int dances(Now then, long[] row) {
        for (int i = 0; i < row.length; i++) {
            if (!dance(then, (int) row[i])) {
                return i;
            }
        }
        return row.length;
    }

    public int call(int figure) {
        return ask(() -> {
            unless(in(figure, 0, now.figures.size() - 1), 1);
            unless(dance(now, figure), 7);
            return now.steps;
        });
    }

    public int judge(int s, int n) {
        return ask(() -> {
            int place = dances(now.same(), needPart(s, n));
            return place == n ? -1 : place;
        });
    }

    public long told(int s, int n, int what) {
        return ask(FAR, () -> {
            long[] row = needPart(s, n);
            unless(in(what, 0, 6), 5);
            Now then = now.same();
            unless(dances(then, row) == n, 6);
            if (what == 0 || what == 1) {
                return what == 0 ? then.p : then.q;
            }
            return what == 6 ? then.spent - now.spent : then.stand.get(what - 2);
        });
    }

    public int dances(int s, int n) {
        return ask(() -> {
            Now then = now.same();
            unless(dances(then, needPart(s, n)) == n, 6);
            now = then;
            return now.steps;
        });
    }

    public long repeated(int s, int n, int t, int what) {
        return ask(FAR, () -> {
            long[] row = needPart(s, n);
            unless(in(what, 0, 2), 5);
            unless(in(t, 0, 10000), 6);
            for (long number : row) {
                unless(in((int) number, 0, now.figures.size() - 1), 6);
            }
            Now then = now.same();
            for (int i = 0; i < t; i++) {
                unless(dances(then, row) == n, 7);
            }
            return what == 2 ? then.stand.get(0) : what == 0 ? then.p : then.q;
        });
    }

    public int same(int p, int q, int n, boolean stand) {
        return ask(() -> {
            needRows(p, q);
            unless(n >= 0, 4);
            long[] one = needPart(p, n);
            long[] other = needPart(q, n);
            Now then = now.same();
            Now there = now.same();
            unless(dances(then, one) == n && dances(there, other) == n, 6);
            boolean like = then.p == there.p && then.q == there.q;
            return like && (!stand || then.stand.equals(there.stand)) ? 1 : 0;
        });
    }

    // ---- undone and made, STEP by STEP (only for NUMBERS that aren't too long to undo so) ----

    private static List<Integer> undoing(long fromP, long fromQ) {
        List<Integer> steps = new ArrayList<>();
        long[] number = {fromP, fromQ};
        while (number[0] != 0) {
            int step = number[0] < 0 ? 0 : 2;
            steps.add(step);
            number = after(step, number[0], number[1]);
        }
        return steps;
    }

    public long undo() {
        return undoing(now.p, now.q).size();
    }

    public int undoes(long i) {
        return ask(() -> {
            List<Integer> steps = undoing(now.p, now.q);
            unless(in(i, 0, steps.size() - 1), 5);
            return steps.get((int) i);
        });
    }

    public int made(long p, long q, long i) {
        return ask(() -> {
            unless(isNumber(p, q), 6);
            List<Integer> steps = undoing(p, q);
            unless(in(i, 0, steps.size() - 1), 5);
            return steps.get((int) (steps.size() - 1 - i)) == 0 ? 1 : 2;
        });
    }

    /** All rows of so many STEPS, in their order. */
    private static List<int[]> rows(int n) {
        List<int[]> all = new ArrayList<>();
        int count = 1;
        for (int i = 0; i < n; i++) {
            count *= 3;
        }
        for (int k = 0; k < count; k++) {
            int[] row = new int[n];
            int rest = k;
            for (int i = n - 1; i >= 0; i--) {
                row[i] = rest % 3;
                rest /= 3;
            }
            all.add(row);
        }
        return all;
    }

    private static final List<List<int[]>> ROWS = new ArrayList<>();

    static {
        for (int n = 0; n <= 9; n++) {
            ROWS.add(rows(n));
        }
    }

    private static boolean leads(int[] row, long p, long q, long toP, long toQ) {
        long[] number = {p, q};
        for (int step : row) {
            number = after(step, number[0], number[1]);
        }
        return number[0] == toP && number[1] == toQ;
    }

    public int least(long p, long q, int i) {
        return (int) ask(-10, () -> {
            unless(isNumber(p, q), 6);
            for (int n = 0; n <= 9; n++) {
                for (int[] row : ROWS.get(n)) {
                    if (leads(row, 0, 1, p, q)) {
                        unless(in(i, -1, n - 1), 5);
                        return i == -1 ? n : row[i];
                    }
                }
            }
            throw new Refused(5);
        });
    }

    public int cheapest(long p, long q, int x, int y, int z, int i) {
        return (int) ask(-10, () -> {
            unless(isNumber(p, q) && in(x, 1, 9) && in(y, 1, 9) && in(z, 1, 9), 6);
            int[] costs = {x, y, z};
            int least = Integer.MAX_VALUE;
            int[] best = null;
            for (int n = 0; n <= 7; n++) {
                for (int[] row : ROWS.get(n)) {
                    int cost = 0;
                    for (int step : row) {
                        cost += costs[step];
                    }
                    if (cost < least && leads(row, 0, 1, p, q)) {
                        least = cost;
                        best = row;
                    }
                }
            }
            unless(best != null && in(i, -1, best.length - 1), 5);
            return i == -1 ? least : best[i];
        });
    }

    // ---- joined, with great fractions: P and Q of any size, Q 0 BEYOND ----

    private static BigInteger[] inLeast(BigInteger p, BigInteger q) {
        if (q.signum() == 0) {
            return new BigInteger[] {BigInteger.ONE, BigInteger.ZERO};
        }
        BigInteger common = p.gcd(q).multiply(BigInteger.valueOf(q.signum()));
        return new BigInteger[] {p.divide(common), q.divide(common)};
    }

    private static BigInteger[] together(BigInteger[] one, BigInteger[] other) {
        if (one[1].signum() == 0 || other[1].signum() == 0) {
            return inLeast(BigInteger.ONE, BigInteger.ZERO);
        }
        return inLeast(one[0].multiply(other[1]).add(other[0].multiply(one[1])), one[1].multiply(other[1]));
    }

    private static BigInteger[] overturned(BigInteger[] one) {
        return inLeast(one[1], one[0]);
    }

    private long joined(long p, long q, int what, boolean over) {
        return ask(FAR, () -> {
            unless(in(what, 0, 1), 5);
            unless(isNumber(p, q), 6);
            long billion = 1000000000L;
            unless(in(p, -billion, billion) && in(now.p, -billion, billion) && q <= billion && now.q <= billion, 7);
            BigInteger[] one = {BigInteger.valueOf(now.p), BigInteger.valueOf(now.q)};
            BigInteger[] other = {BigInteger.valueOf(p), BigInteger.valueOf(q)};
            BigInteger[] both = over ? overturned(together(overturned(one), overturned(other))) : together(one, other);
            BigInteger most = BigInteger.valueOf(TRILLION);
            unless(both[0].abs().compareTo(most) <= 0 && both[1].compareTo(most) <= 0, 7);
            return both[what].longValueExact();
        });
    }

    public long side(long p, long q, int what) {
        return joined(p, q, what, false);
    }

    public long over(long p, long q, int what) {
        return joined(p, q, what, true);
    }

    public int closed(boolean other) {
        return Math.floorMod(other ? now.q : now.p, 2L) == 0 ? 2 : 1;
    }

    public long coloured(int n) {
        return ask(0, () -> {
            unless(in(n, 2, 99), 6);
            int greatest = 1;
            for (int d = 1; d <= n; d++) {
                if (n % d == 0 && now.p % d == 0) {
                    greatest = d;
                }
            }
            return (long) n * greatest;
        });
    }

    // ---- forgotten, kept, by lot, a bag ----

    private static int compare(long[] one, long[] other) {
        if (one[1] == 0 || other[1] == 0) {
            return Boolean.compare(one[1] == 0, other[1] == 0);
        }
        return BigInteger.valueOf(one[0]).multiply(BigInteger.valueOf(other[1]))
                .compareTo(BigInteger.valueOf(other[0]).multiply(BigInteger.valueOf(one[1])));
    }

    private TreeSet<long[]> forgotten(int s, int n, int what) {
        long[] row = needPart(s, n);
        unless(in(what, 0, 3), 5);
        unless(n <= 40, 6);
        int either = 0;
        for (long v : row) {
            unless(in((int) v, 0, 3), 6);
            either += (int) v == 3 ? 1 : 0;
        }
        unless(either <= 7, 7);
        TreeSet<long[]> found = new TreeSet<>(Plain::compare);
        for (int choice = 0; choice < 1 << either; choice++) {
            Now then = now.same();
            int bit = 0;
            for (long v : row) {
                int step = (int) v;
                if (step == 3) {
                    step = choice >> bit & 1;
                    bit++;
                }
                unless(move(then, step), 7);
            }
            found.add(new long[] {then.p, then.q});
        }
        return found;
    }

    public int forgot(int s, int n) {
        return ask(() -> forgotten(s, n, 0).size());
    }

    public long may(int s, int n, int what) {
        return ask(FAR, () -> {
            TreeSet<long[]> found = forgotten(s, n, what);
            return what < 2 ? found.first()[what] : found.last()[what - 2];
        });
    }

    public int kept(int n, long b) {
        return ask(() -> {
            unless(in(n, 0, 9) && in(b, 1, 1000000), 6);
            int count = 0;
            for (int[] row : ROWS.get(n)) {
                long[] number = {now.p, now.q};
                boolean keeps = true;
                for (int step : row) {
                    number = after(step, number[0], number[1]);
                    keeps = keeps && in(number[0], -b, b) && number[1] <= b;
                }
                count += keeps ? 1 : 0;
            }
            return count;
        });
    }

    public int lot(int n, long p, long q) {
        return ask(() -> {
            unless(in(n, 0, 9) && isNumber(p, q), 6);
            int count = 0;
            for (int[] row : ROWS.get(n)) {
                count += leads(row, now.p, now.q, p, q) ? 1 : 0;
            }
            return count;
        });
    }

    public int bag(int s, int n, int k, int i) {
        return (int) ask(-10, () -> {
            needRows(s);
            unless(n >= 0, 4);
            unless(2L * n <= shelves[s].row.length, 5);
            unless(in(n, 1, 4) && in(k, 0, n - 1), 6);
            long[] row = shelves[s].row;
            for (int m = 0; m < n; m++) {
                unless(isNumber(row[2 * m], row[2 * m + 1]), 6);
            }
            for (int length = 0; length <= 7; length++) {
                for (int[] steps : ROWS.get(length)) {
                    boolean tells = true;
                    for (int m = 0; m < n; m++) {
                        tells = tells && (m == k) == leads(steps, row[2 * m], row[2 * m + 1], 0, 1);
                    }
                    if (tells) {
                        unless(in(i, -1, length - 1), 5);
                        return i == -1 ? length : steps[i];
                    }
                }
            }
            throw new Refused(5);
        });
    }

    // ---- in truth ----

    private boolean step(int step) {
        boolean room = move(now, step);
        now.steps += room ? 1 : 0;
        now.spent += room ? 1 : 0;
        return room;
    }

    public int frees(int n) {
        return ask(() -> {
            unless(in(n, 0, 40), 6);
            int done = 0;
            for (int i = 0; i < n && now.p != 0; i++) {
                done += step(now.p < 0 ? 0 : 2) ? 1 : 0;
            }
            return done;
        });
    }

    public int draws(int n) {
        return ask(() -> {
            unless(in(n, 1, 40), 6);
            for (int i = 0; i < n; i++) {
                now.seed = now.seed * 1103515245 + 12345;
                int drawn = (now.seed >> 16 & 0xffff) % 3;
                if (!step(drawn)) {
                    return i;
                }
            }
            return n;
        });
    }

    public int seed(int v) {
        int was = now.seed;
        now.seed = v;
        return was;
    }

    // ---- acts, by a table of bodies ----

    private static final int[][] BODIES = {
        {10, 11, 12}, {20, 0, 0}, {0, 30, 0}, {0, 40, 41}, {0, 0, 50}, {60, 0, 0}, {0, 71, 70}};

    private int run(int[] figure, int m, int from, int act, int x) {
        int kind = from;
        while (BODIES[kind][act] == 0) {
            kind = PARENT[kind];
        }
        int body = BODIES[kind][act];
        int above = PARENT[kind];
        int k = figure[1];
        trace.add(body);
        switch (body) {
            case 10: return x + m;
            case 11: return run(figure, m, figure[0], 0, x) * 2;
            case 12:
                int left = run(figure, m, figure[0], 1, x);
                return left ^ run(figure, m, figure[0], 0, x - k);
            case 20: return run(figure, m, above, 0, x) + k;
            case 30: return run(figure, m, above, 1, x) * 3;
            case 40: return run(figure, m, above, 1, x + 1);
            case 41: return run(figure, m, above, 2, x) - m;
            case 50: return -run(figure, m, above, 2, x);
            case 60: return run(figure, m, above, 0, x) * 2;
            case 70: return run(figure, m, above, 2, x) ^ 5;
            default: return run(figure, m, above, 1, x - k);
        }
    }

    public int act(int figure, int act, int x) {
        trace.clear();
        if (!in(figure, 0, now.figures.size() - 1) || !in(act, 0, 2)) {
            return 0;
        }
        int[] told = now.figures.get(figure);
        return run(told, figure, told[0], act, x);
    }

    public int trace(int i) {
        return in(i, 0, Math.min(20, trace.size()) - 1) ? trace.get(i) : -1;
    }

    // ---- the image ----

    public int image() {
        image = now.same();
        return image.figures.size();
    }

    public int restore() {
        return ask(() -> {
            unless(image != null, 6);
            now = image.same();
            for (int s = 0; s < 8; s++) {
                if (shelves[s] != null && shelves[s].figure >= now.figures.size()) {
                    shelves[s] = null;
                }
            }
            return now.figures.size();
        });
    }

    public int status(int what) {
        int[] states = {now.figures.size(), now.steps, now.spent, now.seed, trace.size()};
        if (in(what, 0, 4)) {
            return states[what];
        }
        return in(what, 11, 17) ? refusals[what - 10] : -1;
    }
}
