/**
 * For each sentence of the document that says what is refused a test of its own: the calls on both sides of each
 * boundary, which of several reasons is answered, and that nothing changes but how many refusals there were.
 */
public final class RefusalTests extends Sentences {
    private static final int LEAST = Integer.MIN_VALUE;
    private static final int MOST = Integer.MAX_VALUE;

    private interface Call {
        long on(TwoRopes x);
    }

    /** The NUMBER from which the objects of a test start. */
    private static long p = 3;
    private static long q = 5;

    public static void main(String[] args) {
        shelves();
        copies();
        shown();
        figures();
        barns();
        truth();
        dances();
        repeated();
        same();
        undone();
        least();
        joined();
        forgotten();
        counted();
        bags();
        drawn();
        restored();
        never();
        order();
        reasons();
        unchanged();
        end();
    }

    /** One FIGURE of each KIND, and SHELVES of each sort; the answers below speak of what stands here. */
    private static TwoRopes hall() {
        TwoRopes x = new TwoRopes();
        for (int kind = DANCE; kind <= ROUND; kind++) {
            due(x.figure(kind, 2, kind + 1), kind);
        }
        fill(x, 0, 0, CHANGE, TURN, MANY, 7, -1);
        due(x.show(1, UNDER), 1);
        fill(x, 3, 3, 1, 1, 2, 1, 2, 4, 5, 1, 6, 1);
        fill(x, 4, 2, 3, 3, 3, 3, 3, 3, 3, 3, 2, 4);
        due(x.row(5, 1, 42), 1);
        due(x.row(6, 0, 0), 1);
        fault(x, "call 9", 5);
        due(x.call(CHANGE), 1);
        due(x.image(), 7);
        due(x.call(TURN), 2);
        due(x.seed(77), 1);
        x.act(MANY, 2, 5);
        due(x.start(p, q), 1);
        return x;
    }

    /** All that can be seen of an object without any refusal, but for the refusals. */
    private static String seen(TwoRopes x) {
        StringBuilder all = new StringBuilder();
        for (int what = 0; what <= 4; what++) {
            all.append(x.status(what)).append(' ');
        }
        all.append(x.now(0)).append('/').append(x.now(1)).append(' ').append(x.fault()).append(' ').append(x.undo());
        for (int i = 0; i < 9; i++) {
            all.append(' ').append(x.trace(i)).append(i < 4 ? "," + x.stand(i) : "");
        }
        for (int s = 0; s < 8; s++) {
            all.append(" ; ").append(x.holds(s));
            for (int i = 0; i < 10; i++) {
                all.append(' ').append(x.element(s, i));
            }
        }
        for (int m = 0; m < x.status(0); m++) {
            all.append(" ; ").append(x.figureOf(m, 0)).append(x.figureOf(m, 1)).append(x.figureOf(m, 2));
        }
        return all.toString();
    }

    private static int[] refusals(TwoRopes x) {
        int[] counts = new int[8];
        for (int why = 1; why <= 7; why++) {
            counts[why] = x.status(10 + why);
        }
        return counts;
    }

    /** The call answers a refusal (-1 to -7, -11 to -17, or far below), which is counted, and nothing else changes. */
    private static void refused(long answer, Call call) {
        TwoRopes x = hall();
        String before = seen(x);
        int[] counts = refusals(x);
        due(call.on(x), answer);
        long far = answer < FAR / 2 ? FAR - answer : -answer;
        counts[(int) (far % 10)]++;
        if (!seen(x).equals(before)) {
            say("changed " + before + "\n     to " + seen(x));
        }
        for (int why = 1; why <= 7; why++) {
            due(x.status(10 + why), counts[why]);
        }
    }

    /** The call is not refused. */
    private static TwoRopes stands(long answer, Call call) {
        TwoRopes x = hall();
        int[] counts = refusals(x);
        due(call.on(x), answer);
        for (int why = 1; why <= 7; why++) {
            due(x.status(10 + why), counts[why]);
        }
        return x;
    }

    private static void from(long newP, long newQ) {
        p = newP;
        q = newQ;
    }

    private static void of(String sentence, long newP, long newQ) {
        of(sentence);
        from(newP, newQ);
    }

    private static void shelves() {
        of("SHELF s holds a new ROW: 1. -1; -4; -6 SORT; -7 n above 160.", 3, 5);
        refused(-1, x -> x.row(-1, 0, 0));
        refused(-1, x -> x.row(8, 0, 0));
        refused(-1, x -> x.row(8, 4, -1));
        refused(-1, x -> x.row(LEAST, 4, 161));
        stands(1, x -> x.row(0, 0, 0));
        stands(1, x -> x.row(7, 3, 160));
        refused(-4, x -> x.row(0, 0, -1));
        refused(-4, x -> x.row(0, 4, LEAST));
        refused(-6, x -> x.row(0, -1, 0));
        refused(-6, x -> x.row(0, 4, 160));
        refused(-6, x -> x.row(0, 4, 161));
        refused(-7, x -> x.row(0, 3, 161));
        refused(-7, x -> x.row(2, 0, MOST));

        of("Element i of the ROW becomes v: 1. -1; -2; -3; -5.", 3, 5);
        refused(-1, x -> x.set(-1, 0, 9));
        refused(-1, x -> x.set(8, 0, 9));
        refused(-2, x -> x.set(1, 0, 9));
        refused(-2, x -> x.set(1, -1, 9));
        refused(-3, x -> x.set(2, 0, 9));
        refused(-3, x -> x.set(2, -1, 9));
        stands(1, x -> x.set(0, 0, 9));
        stands(1, x -> x.set(0, 4, 9));
        refused(-5, x -> x.set(0, 5, 9));
        refused(-5, x -> x.set(0, -1, 9));
        refused(-5, x -> x.set(0, LEAST, 9));
        refused(-5, x -> x.set(0, MOST, 9));
        refused(-5, x -> x.set(6, 0, 9));
    }

    private static void copies() {
        of("1. -1; -2 also of two SORTS (when both hold something); -3 either; -4 n; -5 i or j below 0, or an end that isn't there.",
                3, 5);
        refused(-1, x -> x.copy(-1, 0, 0, 0, 1));
        refused(-1, x -> x.copy(8, 0, 0, 0, 1));
        refused(-1, x -> x.copy(0, -1, 0, 0, 1));
        refused(-1, x -> x.copy(0, 8, 0, 0, 1));
        refused(-1, x -> x.copy(1, 8, 0, 0, 1));
        refused(-1, x -> x.copy(8, 1, 0, 0, 1));
        refused(-1, x -> x.copy(2, 8, -1, -1, -1));
        refused(-2, x -> x.copy(1, 0, 0, 0, 1));
        refused(-2, x -> x.copy(0, 1, 0, 0, 1));
        refused(-2, x -> x.copy(1, 2, 0, 0, 1));
        refused(-2, x -> x.copy(2, 1, 0, 0, 1));
        refused(-2, x -> x.copy(1, 1, -1, -1, -1));
        refused(-2, x -> x.copy(0, 3, 0, 0, 1));
        refused(-2, x -> x.copy(5, 4, -1, -1, -1));
        refused(-3, x -> x.copy(2, 0, 0, 0, 1));
        refused(-3, x -> x.copy(0, 2, 0, 0, 1));
        refused(-3, x -> x.copy(2, 2, 0, 0, 0));
        refused(-3, x -> x.copy(3, 2, -1, -1, -1));
        refused(-4, x -> x.copy(0, 7, 0, 0, -1));
        refused(-4, x -> x.copy(0, 7, -1, -1, LEAST));
        refused(-5, x -> x.copy(0, 7, -1, 0, 1));
        refused(-5, x -> x.copy(0, 7, 0, -1, 1));
        refused(-5, x -> x.copy(0, 7, -1, 0, 0));
        refused(-5, x -> x.copy(0, 7, 0, -1, 0));
        stands(1, x -> x.copy(0, 7, 0, 0, 5));
        refused(-5, x -> x.copy(0, 7, 0, 0, 6));
        stands(1, x -> x.copy(0, 7, 4, 5, 1));
        refused(-5, x -> x.copy(0, 7, 5, 0, 1));
        refused(-5, x -> x.copy(0, 7, 0, 6, 1));
        stands(1, x -> x.copy(0, 7, 5, 6, 0));
        refused(-5, x -> x.copy(0, 7, 6, 0, 0));
        refused(-5, x -> x.copy(0, 7, 0, 7, 0));
        stands(1, x -> x.copy(6, 0, 0, 5, 0));
        refused(-5, x -> x.copy(6, 0, 0, 0, 1));
        refused(-5, x -> x.copy(0, 6, 0, 0, 1));
        refused(-5, x -> x.copy(0, 7, MOST, 0, MOST));
        refused(-5, x -> x.copy(0, 7, 1, 1, MOST));
    }

    private static void shown() {
        of("SHELF s holds a FIGURE, or NOTHING (figure NONE): 1, 0. -1.", 3, 5);
        refused(-1, x -> x.show(-1, 0));
        refused(-1, x -> x.show(8, 0));
        refused(-1, x -> x.show(8, NONE));
        refused(-1, x -> x.show(0, 7));
        refused(-1, x -> x.show(0, 8));
        refused(-1, x -> x.show(0, -2));
        refused(-1, x -> x.show(1, MOST));
        refused(-1, x -> x.show(2, LEAST));
        stands(1, x -> x.show(7, 6));
        stands(0, x -> x.show(7, NONE));

        of("-1 SHELF, KIND; -2 also a FIGURE of another KIND; -3.", 3, 5);
        refused(-1, x -> x.says(-1, 0));
        refused(-1, x -> x.says(8, 0));
        refused(-1, x -> x.says(1, -1));
        refused(-1, x -> x.says(1, 7));
        refused(-1, x -> x.says(0, 7));
        refused(-1, x -> x.says(2, 7));
        refused(-2, x -> x.says(0, DANCE));
        refused(-2, x -> x.says(6, UNDER));
        stands(3, x -> x.says(1, DANCE));
        stands(9, x -> x.says(1, CHANGE));
        stands(9, x -> x.says(1, UNDER));
        for (int kind = MANY; kind <= ROUND; kind++) {
            int other = kind;
            refused(-2, x -> x.says(1, other));
        }
        refused(-3, x -> x.says(2, DANCE));
    }

    private static void figures() {
        of("A FIGURE: the number. -1 KIND; -6; -7.", 3, 5);
        refused(-1, x -> x.figure(-1, 0, 1));
        refused(-1, x -> x.figure(7, 0, 1));
        refused(-1, x -> x.figure(7, 10, 10));
        refused(-6, x -> x.figure(0, -1, 1));
        refused(-6, x -> x.figure(0, 10, 1));
        refused(-6, x -> x.figure(0, 0, 0));
        refused(-6, x -> x.figure(0, 0, 10));
        stands(7, x -> x.figure(0, 9, 9));
        TwoRopes full = stands(7, x -> x.figure(0, 0, 1));
        due(full.figure(0, 0, 1), -7);
        due(full.figure(0, 10, 1), -6);
        due(full.figure(0, 0, 0), -6);
        due(full.figure(7, 0, 1), -1);
        due(full.status(17), 1);
        due(full.status(0), 8);

        of("Of a FIGURE: 0 KIND, 1 a, 2 COST. -5: no such one, another what.", 3, 5);
        stands(6, x -> x.figureOf(6, 0));
        stands(2, x -> x.figureOf(6, 1));
        stands(7, x -> x.figureOf(6, 2));
        refused(-5, x -> x.figureOf(7, 0));
        refused(-5, x -> x.figureOf(-1, 0));
        refused(-5, x -> x.figureOf(0, 3));
        refused(-5, x -> x.figureOf(0, -1));
        refused(-5, x -> x.figureOf(8, 3));

        of("NOW becomes P by Q (STAND stays): 1. -6.", 3, 5);
        long[][] wrong = {{2, 4}, {0, 0}, {0, 2}, {2, 0}, {-1, 0}, {1, -1}, {0, -1}, {TRILLION + 1, 1}, {-TRILLION - 1, 1},
            {1, TRILLION + 1}, {Long.MIN_VALUE, 1}, {Long.MAX_VALUE, 1}, {1, Long.MIN_VALUE}, {1, Long.MAX_VALUE}, {3, 3}};
        for (long[] number : wrong) {
            refused(-6, x -> x.start(number[0], number[1]));
        }
        long[][] right = {{TRILLION, 1}, {-TRILLION, 1}, {1, TRILLION}, {1, 0}, {0, 1}, {TRILLION - 1, TRILLION}, {-1, 1}};
        for (long[] number : right) {
            now(stands(1, x -> x.start(number[0], number[1])), number[0], number[1]);
        }
    }

    private static void barns() {
        of("A BARN by the ROW in SHELF s: how many ITEMS. -1; -2; -3; -6 a FAULT (also of call: no ROOM: N).", 3, 5);
        refused(-1, x -> x.barn(-1));
        refused(-1, x -> x.barn(8));
        refused(-2, x -> x.barn(1));
        refused(-3, x -> x.barn(2));
        refused(-6, x -> x.barn(7));
        TwoRopes x = hall();
        fault(x, "start 999 1;call 0;call 1;call 9", 31);
        now(x, 3, 5);
        due(x.start(TRILLION, 1), 1);
        fault(x, "call 0;call 1", 12);
        due(x.start(TRILLION - 1, 1), 1);
        fault(x, "call 1;call 1;call x", 12);
        now(x, TRILLION - 1, 1);
        due(x.status(17), 0);
        due(barn(x, "call 1"), 1);
        now(x, TRILLION, 1);
    }

    private static void truth() {
        of("P (what 0), Q (1) NOW. -2000000000005: another what.", 3, 5);
        stands(3, x -> x.now(0));
        stands(5, x -> x.now(1));
        refused(FAR - 5, x -> x.now(2));
        refused(FAR - 5, x -> x.now(-1));

        of("The dancer at a corner. -5.", 3, 5);
        stands(3, x -> x.stand(0));
        stands(1, x -> x.stand(3));
        refused(-5, x -> x.stand(4));
        refused(-5, x -> x.stand(-1));

        of("A FIGURE is danced in truth: STEPS. -1; -7.", TRILLION, 1);
        refused(-1, x -> x.call(7));
        refused(-1, x -> x.call(-1));
        refused(-1, x -> x.call(MOST));
        refused(-7, x -> x.call(CHANGE));
        refused(-7, x -> x.call(MANY));
        stands(3, x -> x.call(UNDER));
        stands(3, x -> x.call(DANCE));
        from(-TRILLION, 1);
        refused(-7, x -> x.call(UNDER));
        stands(3, x -> x.call(MANY));
        from(TRILLION - 1, 1);
        refused(-7, x -> x.call(MANY));
        stands(3, x -> x.call(CHANGE));
    }

    private static void dances() {
        of("the first place at which there is no such FIGURE, or no ROOM; NONE. -1; -2; -3; -4 n; -5 fewer elements.", 3, 5);
        refused(-1, x -> x.judge(-1, 0));
        refused(-1, x -> x.judge(8, -1));
        refused(-2, x -> x.judge(1, 0));
        refused(-2, x -> x.judge(1, -1));
        refused(-3, x -> x.judge(2, 0));
        refused(-3, x -> x.judge(2, -1));
        refused(-4, x -> x.judge(0, -1));
        refused(-4, x -> x.judge(0, LEAST));
        stands(NONE, x -> x.judge(0, 0));
        stands(3, x -> x.judge(0, 5));
        refused(-5, x -> x.judge(0, 6));
        refused(-5, x -> x.judge(6, 1));
        refused(-5, x -> x.judge(0, 161));
        refused(-5, x -> x.judge(0, MOST));

        of("-2000000000001; ..2; ..3; ..4; ..5 also another what; ..6 it can't be danced.", 3, 5);
        refused(FAR - 1, x -> x.told(8, -1, 7));
        refused(FAR - 1, x -> x.told(-1, 0, 0));
        refused(FAR - 2, x -> x.told(1, -1, 7));
        refused(FAR - 3, x -> x.told(2, -1, 7));
        refused(FAR - 4, x -> x.told(0, -1, 7));
        refused(FAR - 5, x -> x.told(0, 6, 0));
        refused(FAR - 5, x -> x.told(0, 3, 7));
        refused(FAR - 5, x -> x.told(0, 3, -1));
        refused(FAR - 5, x -> x.told(0, 4, 7));
        refused(FAR - 6, x -> x.told(0, 4, 0));
        refused(FAR - 6, x -> x.told(0, 4, 6));
        stands(11, x -> x.told(0, 3, 0));
        stands(11, x -> x.told(0, 3, 6));
        stands(0, x -> x.told(0, 0, 6));
        from(TRILLION, 1);
        refused(FAR - 6, x -> x.told(0, 1, 0));
        stands(TRILLION, x -> x.told(0, 0, 0));

        of("It is danced in truth: STEPS. -1; -2; -3; -4; -5; -6 likewise.", 3, 5);
        refused(-1, x -> x.dances(8, -1));
        refused(-2, x -> x.dances(1, -1));
        refused(-3, x -> x.dances(2, -1));
        refused(-4, x -> x.dances(0, -1));
        refused(-5, x -> x.dances(0, 6));
        refused(-6, x -> x.dances(0, 5));
        refused(-6, x -> x.dances(0, 4));
        stands(5, x -> x.dances(0, 3));
        stands(2, x -> x.dances(0, 0));
        from(TRILLION, 1);
        refused(-6, x -> x.dances(0, 3));
        from(TRILLION - 1, 1);
        stands(3, x -> x.dances(0, 1));
    }

    private static void repeated() {
        of("-2000000000001 and so on to ..6 (n, t; no such FIGURE); ..7 no ROOM.", 3, 5);
        refused(FAR - 1, x -> x.repeated(8, -1, -1, 3));
        refused(FAR - 1, x -> x.repeated(-1, 1, 1, 0));
        refused(FAR - 2, x -> x.repeated(1, -1, -1, 3));
        refused(FAR - 3, x -> x.repeated(2, -1, -1, 3));
        refused(FAR - 4, x -> x.repeated(0, -1, -1, 3));
        refused(FAR - 5, x -> x.repeated(0, 6, 10001, 0));
        refused(FAR - 5, x -> x.repeated(0, 4, 10001, 3));
        refused(FAR - 5, x -> x.repeated(0, 1, 1, -1));
        refused(FAR - 6, x -> x.repeated(0, 1, 10001, 0));
        refused(FAR - 6, x -> x.repeated(0, 1, -1, 0));
        refused(FAR - 6, x -> x.repeated(0, 1, MOST, 0));
        refused(FAR - 6, x -> x.repeated(0, 4, 1, 0));
        refused(FAR - 6, x -> x.repeated(0, 4, 0, 0));
        refused(FAR - 6, x -> {
            x.set(0, 0, 7);
            long answer = x.repeated(0, 1, 1, 0);
            x.set(0, 0, CHANGE);
            return answer;
        });
        stands(3, x -> x.repeated(0, 1, 0, 0));
        stands(50003, x -> x.repeated(0, 1, 10000, 0));
        from(TRILLION, 1);
        stands(TRILLION, x -> x.repeated(0, 1, 0, 0));
        stands(TRILLION, x -> x.repeated(0, 0, 10000, 0));
        refused(FAR - 7, x -> x.repeated(0, 1, 1, 0));
        refused(FAR - 6, x -> x.repeated(0, 4, 1, 0));
        from(TRILLION - 10000, 1);
        stands(TRILLION, x -> x.repeated(0, 1, 10000, 0));
        from(TRILLION - 9999, 1);
        stands(TRILLION, x -> x.repeated(0, 1, 9999, 0));
        refused(FAR - 7, x -> x.repeated(0, 1, 10000, 0));
    }

    private static void same() {
        of("(stand: and the same STAND): 1, 0. -1; -2; -3; -4; -5; -6 either can't be danced.", 3, 5);
        refused(-1, x -> x.same(8, 0, -1, true));
        refused(-1, x -> x.same(0, 8, -1, true));
        refused(-1, x -> x.same(1, -1, -1, true));
        refused(-1, x -> x.same(-1, 2, -1, true));
        refused(-2, x -> x.same(1, 0, -1, true));
        refused(-2, x -> x.same(0, 1, 1, true));
        refused(-2, x -> x.same(1, 2, 1, true));
        refused(-2, x -> x.same(2, 1, 1, true));
        refused(-3, x -> x.same(2, 0, -1, true));
        refused(-3, x -> x.same(0, 2, 1, true));
        refused(-3, x -> x.same(2, 2, 1, true));
        refused(-4, x -> x.same(0, 6, -1, true));
        refused(-5, x -> x.same(0, 6, 1, true));
        refused(-5, x -> x.same(6, 0, 1, true));
        refused(-5, x -> x.same(0, 4, 6, true));
        refused(-5, x -> x.same(4, 0, 6, true));
        refused(-6, x -> x.same(0, 5, 4, true));
        refused(-6, x -> x.same(5, 0, 4, true));
        refused(-6, x -> x.same(0, 0, 4, true));
        stands(0, x -> x.same(0, 5, 3, true));
        stands(1, x -> x.same(0, 0, 3, true));
        stands(1, x -> x.same(0, 6, 0, true));
        from(TRILLION, 1);
        refused(-6, x -> x.same(0, 5, 1, false));
        refused(-6, x -> x.same(5, 0, 1, false));
    }

    private static void undone() {
        // 3 by 5: -5 by 3, -2 by 3, 1 by 3, -3, -2, -1, 0.
        of("The i-th of them (0 over, 2 on). -5 (as a number).", 3, 5);
        stands(7, x -> x.undo());
        stands(ON_STEP, x -> x.undoes(0));
        stands(OVER_STEP, x -> x.undoes(6));
        refused(-5, x -> x.undoes(7));
        refused(-5, x -> x.undoes(-1));
        refused(-5, x -> x.undoes(Long.MAX_VALUE));
        refused(-5, x -> x.undoes(Long.MIN_VALUE));
        // Were it cut to an int, it would be there.
        refused(-5, x -> x.undoes(1L << 32));
        from(0, 1);
        refused(-5, x -> x.undoes(0));

        of("The i-th STEP of MADE of P by Q. -5 no such; -6.", 0, 1);
        stands(UNDER_STEP, x -> x.made(3, 5, 0));
        stands(ON_STEP, x -> x.made(3, 5, 6));
        refused(-5, x -> x.made(3, 5, 7));
        refused(-5, x -> x.made(3, 5, -1));
        refused(-5, x -> x.made(3, 5, 1L << 32));
        refused(-5, x -> x.made(3, 5, Long.MIN_VALUE));
        refused(-5, x -> x.made(0, 1, 0));
        refused(-6, x -> x.made(2, 4, 0));
        refused(-6, x -> x.made(1, -1, 0));
        refused(-6, x -> x.made(TRILLION + 1, 1, 0));

        of("-5 for a number that goes with another one (an i of a k, one that is found by a number) is looked at only"
                + " if that other one may be; else it is -6.", 3, 5);
        refused(-6, x -> x.made(2, 4, -1));
        refused(-6, x -> x.made(2, 4, Long.MAX_VALUE));
        refused(-16, x -> x.least(2, 4, -2));
        refused(-16, x -> x.least(2, 4, 9));
        refused(-16, x -> x.cheapest(2, 4, 1, 1, 1, 99));
        refused(-16, x -> x.cheapest(1, 1, 1, 1, 10, 99));
        refused(-16, x -> x.bag(3, 2, 2, 99));
        refused(-16, x -> x.bag(3, 2, -1, 99));
        refused(-16, x -> x.bag(3, 3, 0, 99));
    }

    private static void least() {
        of("how many (i NONE), the i-th. -15 no such place, none of 9 at most; -16 (counted as -5, -6).", 3, 5);
        stands(0, x -> x.least(0, 1, NONE));
        refused(-15, x -> x.least(0, 1, 0));
        stands(9, x -> x.least(9, 1, NONE));
        stands(OVER_STEP, x -> x.least(9, 1, 8));
        refused(-15, x -> x.least(9, 1, 9));
        refused(-15, x -> x.least(9, 1, -2));
        refused(-15, x -> x.least(9, 1, LEAST));
        refused(-15, x -> x.least(10, 1, NONE));
        refused(-15, x -> x.least(10, 1, 0));
        refused(-16, x -> x.least(2, 4, NONE));
        refused(-16, x -> x.least(TRILLION + 1, 1, NONE));
        refused(-16, x -> x.least(1, -1, NONE));

        of("the COST (i NONE), the i-th STEP. -15 likewise of 7; -16 also COSTS.", 3, 5);
        stands(0, x -> x.cheapest(0, 1, 9, 9, 9, NONE));
        refused(-15, x -> x.cheapest(0, 1, 9, 9, 9, 0));
        stands(14, x -> x.cheapest(7, 1, 2, 9, 9, NONE));
        stands(OVER_STEP, x -> x.cheapest(7, 1, 2, 9, 9, 6));
        refused(-15, x -> x.cheapest(7, 1, 2, 9, 9, 7));
        refused(-15, x -> x.cheapest(7, 1, 2, 9, 9, -2));
        refused(-15, x -> x.cheapest(8, 1, 2, 9, 9, NONE));
        refused(-15, x -> x.cheapest(8, 1, 2, 9, 9, 0));
        refused(-16, x -> x.cheapest(2, 4, 1, 1, 1, NONE));
        refused(-16, x -> x.cheapest(1, 1, 0, 1, 1, NONE));
        refused(-16, x -> x.cheapest(1, 1, 10, 1, 1, NONE));
        refused(-16, x -> x.cheapest(1, 1, 1, 0, 1, NONE));
        refused(-16, x -> x.cheapest(1, 1, 1, 10, 1, NONE));
        refused(-16, x -> x.cheapest(1, 1, 1, 1, 0, NONE));
        refused(-16, x -> x.cheapest(1, 1, 1, 1, 10, NONE));
        stands(1, x -> x.cheapest(1, 1, 1, 1, 1, NONE));
        stands(9, x -> x.cheapest(1, 1, 9, 9, 9, NONE));
    }

    private static void joined() {
        of("-2000000000005 another what; ..6; ..7: P or Q of either (whatever its sign) above 10 to the power of 9,"
                + " or of what comes of it above 10 to the power of 12.", 3, 5);
        refused(FAR - 5, x -> x.side(1, 1, 2));
        refused(FAR - 5, x -> x.side(1, 1, -1));
        refused(FAR - 5, x -> x.side(2, 4, 2));
        refused(FAR - 6, x -> x.side(2, 4, 0));
        refused(FAR - 6, x -> x.side(TRILLION + 1, 1, 0));
        refused(FAR - 7, x -> x.side(TRILLION, 1, 0));
        refused(FAR - 7, x -> x.side(BILLION + 1, 1, 0));
        refused(FAR - 7, x -> x.side(-BILLION - 1, 1, 0));
        refused(FAR - 7, x -> x.side(1, BILLION + 1, 0));
        stands(5 * BILLION + 3, x -> x.side(BILLION, 1, 0));
        stands(-5 * BILLION + 3, x -> x.side(-BILLION, 1, 0));
        stands(BILLION, x -> x.side(1, BILLION, 1));
        from(BILLION, 1);
        stands(2 * BILLION, x -> x.side(BILLION, 1, 0));
        stands(BILLION, x -> x.side(0, 1, 0));
        from(BILLION + 1, 1);
        refused(FAR - 7, x -> x.side(0, 1, 0));
        refused(FAR - 6, x -> x.side(2, 4, 0));
        from(-BILLION - 1, 1);
        refused(FAR - 7, x -> x.side(0, 1, 0));
        from(1, BILLION + 1);
        refused(FAR - 7, x -> x.side(0, 1, 0));
        refused(FAR - 7, x -> x.side(1, 0, 0));
        // What comes of it: Q, then P, then P below 0.
        from(1, 4096);
        stands(TRILLION, x -> x.side(1, 244140625, 1));
        from(1, 10001);
        refused(FAR - 7, x -> x.side(1, 99990001, 1));
        from(BILLION, 1);
        stands(TRILLION, x -> x.side(BILLION, 999, 0));
        refused(FAR - 7, x -> x.side(1, 1000, 0));
        from(-BILLION, 1);
        stands(-TRILLION, x -> x.side(-BILLION, 999, 0));
        refused(FAR - 7, x -> x.side(-1, 1000, 0));
        // In least terms it is not above.
        from(999999999, BILLION);
        stands(1, x -> x.side(-999999997, BILLION, 0));

        of("OVER one another with NOW: likewise.", 3, 5);
        refused(FAR - 5, x -> x.over(1, 1, 2));
        refused(FAR - 5, x -> x.over(1, 1, -1));
        refused(FAR - 5, x -> x.over(2, 4, 2));
        refused(FAR - 6, x -> x.over(2, 4, 0));
        refused(FAR - 6, x -> x.over(1, TRILLION + 1, 0));
        refused(FAR - 7, x -> x.over(BILLION + 1, 1, 0));
        refused(FAR - 7, x -> x.over(-BILLION - 1, 1, 0));
        refused(FAR - 7, x -> x.over(1, BILLION + 1, 0));
        stands(3, x -> x.over(1, BILLION, 0));
        stands(3 * BILLION + 5, x -> x.over(1, BILLION, 1));
        from(1, BILLION + 1);
        refused(FAR - 7, x -> x.over(1, 1, 0));
        refused(FAR - 6, x -> x.over(2, 4, 0));
        from(-BILLION - 1, 1);
        refused(FAR - 7, x -> x.over(1, 0, 0));
        from(4096, 1);
        stands(TRILLION, x -> x.over(244140625, 1, 0));
        from(10001, 1);
        refused(FAR - 7, x -> x.over(99990001, 1, 1));
        from(1, BILLION);
        stands(TRILLION, x -> x.over(999, BILLION, 1));
        refused(FAR - 7, x -> x.over(1000, 1, 1));
    }

    private static void forgotten() {
        of("how many. -1; -2; -3; -4; -5 fewer elements; -6 n above 40, an element not 0 to 3; -7 more than 7 of 3, no ROOM.",
                3, 5);
        refused(-1, x -> x.forgot(8, -1));
        refused(-2, x -> x.forgot(1, -1));
        refused(-3, x -> x.forgot(2, -1));
        refused(-4, x -> x.forgot(4, -1));
        refused(-5, x -> x.forgot(4, 11));
        refused(-5, x -> x.forgot(4, 41));
        refused(-5, x -> x.forgot(6, 1));
        stands(1, x -> x.forgot(6, 0));
        stands(1, x -> x.forgot(5, 40));
        refused(-6, x -> x.forgot(5, 41));
        refused(-6, x -> x.forgot(5, 42));
        refused(-5, x -> x.forgot(5, 43));
        stands(8, x -> x.forgot(4, 7));
        refused(-7, x -> x.forgot(4, 8));
        refused(-7, x -> x.forgot(4, 9));
        refused(-6, x -> x.forgot(4, 10));
        from(TRILLION, 1);
        refused(-7, x -> x.forgot(4, 1));
        refused(-6, x -> x.forgot(4, 10));
        refused(-7, x -> x.forgot(5, 1));
        from(TRILLION - 7, 1);
        stands(8, x -> x.forgot(4, 7));
        from(TRILLION - 6, 1);
        refused(-7, x -> x.forgot(4, 7));
        from(6 - TRILLION, 1);
        refused(-7, x -> x.forgot(4, 7));
        stands(7, x -> x.forgot(4, 6));
        from(TRILLION - 40, 1);
        stands(1, x -> x.forgot(5, 40));
        from(TRILLION - 39, 1);
        refused(-7, x -> x.forgot(5, 40));

        of("The least of them (what 0 P, 1 Q), the greatest (2, 3). -2000000000001 and so on to ..7; ..5 also another what.",
                3, 5);
        refused(FAR - 1, x -> x.may(8, -1, 4));
        refused(FAR - 2, x -> x.may(1, -1, 4));
        refused(FAR - 3, x -> x.may(2, -1, 4));
        refused(FAR - 4, x -> x.may(4, -1, 4));
        refused(FAR - 5, x -> x.may(4, 11, 0));
        refused(FAR - 5, x -> x.may(4, 1, 4));
        refused(FAR - 5, x -> x.may(4, 1, -1));
        refused(FAR - 5, x -> x.may(4, 10, 4));
        refused(FAR - 5, x -> x.may(5, 41, 4));
        refused(FAR - 6, x -> x.may(5, 41, 0));
        refused(FAR - 6, x -> x.may(4, 10, 3));
        refused(FAR - 7, x -> x.may(4, 8, 0));
        stands(-32, x -> x.may(4, 7, 0));
        stands(5, x -> x.may(4, 7, 1));
        stands(38, x -> x.may(4, 7, 2));
        stands(5, x -> x.may(4, 7, 3));
        from(TRILLION, 1);
        refused(FAR - 7, x -> x.may(4, 1, 0));
        stands(TRILLION, x -> x.may(4, 0, 0));
    }

    private static void counted() {
        of("KEPT by b (1 to 1,000,000). -6.", 3, 5);
        refused(-6, x -> x.kept(-1, 1));
        refused(-6, x -> x.kept(10, 1));
        refused(-6, x -> x.kept(1, 0));
        refused(-6, x -> x.kept(1, 1000001));
        refused(-6, x -> x.kept(LEAST, 1));
        refused(-6, x -> x.kept(1, Long.MIN_VALUE));
        refused(-6, x -> x.kept(1, (1L << 32) + 1));
        stands(1, x -> x.kept(0, 1));
        stands(0, x -> x.kept(1, 1));
        stands(19683, x -> x.kept(9, 1000000));

        of("LOT to P by Q. -6.", 3, 5);
        refused(-6, x -> x.lot(-1, 3, 5));
        refused(-6, x -> x.lot(10, 3, 5));
        refused(-6, x -> x.lot(MOST, 3, 5));
        refused(-6, x -> x.lot(1, 2, 4));
        refused(-6, x -> x.lot(1, 1, -1));
        refused(-6, x -> x.lot(1, TRILLION + 1, 1));
        refused(-6, x -> x.lot(1, -1, 0));
        stands(1, x -> x.lot(0, 3, 5));
        stands(0, x -> x.lot(0, 1, 0));
        stands(3, x -> x.lot(2, 3, 5));
        stands(0, x -> x.lot(9, TRILLION, 1));

        of("COLOURED by n colours (2 to 99). -6.", 3, 5);
        refused(-6, x -> x.coloured(1));
        refused(-6, x -> x.coloured(100));
        refused(-6, x -> x.coloured(0));
        refused(-6, x -> x.coloured(LEAST));
        stands(2, x -> x.coloured(2));
        stands(297, x -> x.coloured(99));
    }

    private static void bags() {
        of("-11; -12; -13; -14 n below 0; -15 fewer elements, no such place, none of 7 at most; -16 n 0 or above 4, k,"
                + " a NUMBER that may not be (counted as -1 to -6).", 3, 5);
        refused(-11, x -> x.bag(8, -1, -1, 99));
        refused(-11, x -> x.bag(-1, 1, 0, NONE));
        refused(-12, x -> x.bag(1, -1, -1, 99));
        refused(-13, x -> x.bag(2, -1, -1, 99));
        refused(-14, x -> x.bag(3, -1, -1, 99));
        refused(-14, x -> x.bag(3, LEAST, 0, NONE));
        refused(-15, x -> x.bag(3, 6, 9, NONE));
        refused(-15, x -> x.bag(3, MOST, 0, NONE));
        refused(-15, x -> x.bag(3, 1 << 30, 0, NONE));
        refused(-15, x -> x.bag(6, 1, 0, NONE));
        refused(-16, x -> x.bag(3, 5, 0, NONE));
        refused(-16, x -> x.bag(3, 0, 0, NONE));
        refused(-16, x -> x.bag(6, 0, 0, NONE));
        refused(-16, x -> x.bag(3, 2, 2, NONE));
        refused(-16, x -> x.bag(3, 2, -1, NONE));
        refused(-16, x -> x.bag(3, 3, 0, NONE));
        refused(-16, x -> x.bag(3, 3, 2, NONE));
        stands(1, x -> x.bag(3, 2, 0, NONE));
        stands(2, x -> x.bag(3, 2, 1, NONE));
        stands(UNDER_STEP, x -> x.bag(3, 2, 1, 1));
        refused(-15, x -> x.bag(3, 2, 1, 2));
        refused(-15, x -> x.bag(3, 2, 1, -2));
        // 0 by 0 is no NUMBER; nothing tells what is told twice from itself.
        refused(-16, x -> x.bag(5, 4, 0, NONE));
        stands(7, x -> alone(x, 7));
        refused(-15, x -> {
            fill(x, 7, 0, 7, 1, 1, 1, 7, 1);
            long answer = x.bag(7, 3, 0, NONE);
            fill(x, 7, 0, 'c', 'a', 'l', 'l', ' ', '9');
            return answer;
        });
        refused(-15, x -> {
            long answer = alone(x, 8);
            fill(x, 7, 0, 'c', 'a', 'l', 'l', ' ', '9');
            return answer;
        });
    }

    private static long alone(TwoRopes x, long number) {
        fill(x, 7, 0, number, 1);
        return x.bag(7, 1, 0, NONE);
    }

    private static void drawn() {
        of("The first n (0 to 40) STEPS of UNDO are danced in truth (each as a FIGURE of COST 1): how many were. -6.", 3, 5);
        refused(-6, x -> x.frees(-1));
        refused(-6, x -> x.frees(41));
        refused(-6, x -> x.frees(LEAST));
        stands(0, x -> x.frees(0));
        stands(7, x -> x.frees(40));
        stands(7, x -> x.frees(7));
        stands(6, x -> x.frees(6));

        of("BY DRAWS n (1 to 40) STEPS in truth (each as a FIGURE of COST 1), until there is no ROOM: how many. -6.", 3, 5);
        refused(-6, x -> x.draws(0));
        refused(-6, x -> x.draws(-1));
        refused(-6, x -> x.draws(41));
        refused(-6, x -> x.draws(MOST));
        stands(1, x -> x.draws(1));
        stands(40, x -> x.draws(40));
    }

    private static void restored() {
        TwoRopes x = of("All is as THE IMAGE has it; SHELVES with FIGURES hold those of these numbers, or NOTHING:"
                + " how many FIGURES. -6 there is none.");
        due(x.restore(), -6);
        due(x.status(16), 1);
        due(x.image(), 0);
        due(x.restore(), 0);
        due(x.restore(), 0);
        due(x.status(16), 1);
    }

    private static void never() {
        of("Element i of the ROW; 0 if there is none (nothing is refused).", 3, 5);
        stands(1, x -> x.element(0, 0));
        stands(-1, x -> x.element(0, 4));
        stands(0, x -> x.element(0, 5));
        stands(0, x -> x.element(0, -1));
        stands(0, x -> x.element(0, MOST));
        stands(0, x -> x.element(1, 0));
        stands(0, x -> x.element(2, 0));
        stands(0, x -> x.element(-1, 0));
        stands(0, x -> x.element(8, 0));

        of("What SHELF s holds: NONE NOTHING, or no such SHELF; a FIGURE's number; 100 and the SORT of a ROW.", 3, 5);
        stands(NONE, x -> x.holds(2));
        stands(NONE, x -> x.holds(-1));
        stands(NONE, x -> x.holds(8));
        stands(NONE, x -> x.holds(LEAST));
        stands(UNDER, x -> x.holds(1));
        stands(100, x -> x.holds(6));
        stands(101, x -> x.holds(5));
        stands(102, x -> x.holds(4));
        stands(103, x -> x.holds(3));

        of("SEED becomes v: what it was (nothing is refused).", 3, 5);
        stands(77, x -> x.seed(LEAST));
        stands(77, x -> x.seed(MOST));
        TwoRopes seeded = stands(77, x -> x.seed(LEAST));
        due(seeded.status(3), LEAST);
        due(seeded.seed(0), LEAST);

        of("An ACT of a FIGURE with x. 0, and no TRACE then: no such FIGURE, act.", 3, 5);
        int[][] none = {{7, 0}, {-1, 0}, {8, 2}, {0, 3}, {0, -1}, {LEAST, MOST}};
        for (int[] act : none) {
            TwoRopes still = stands(0, x -> x.act(act[0], act[1], 5));
            due(still.status(4), 0);
            due(still.trace(0), NONE);
        }
        due(stands(5, x -> x.act(0, 0, 5)).status(4), 1);

        of("THE TRACE's i-th body. NONE: none such.", 3, 5);
        stands(41, x -> x.trace(0));
        stands(10, x -> x.trace(7));
        stands(NONE, x -> x.trace(8));
        stands(NONE, x -> x.trace(19));
        stands(NONE, x -> x.trace(20));
        stands(NONE, x -> x.trace(-1));
        stands(NONE, x -> x.trace(LEAST));
        stands(NONE, x -> x.trace(MOST));

        of("11 to 17: REFUSALS -1 to -7. NONE for another what.", 3, 5);
        for (int what : new int[] {-1, 5, 9, 10, 18, LEAST, MOST}) {
            stands(NONE, x -> x.status(what));
        }
        stands(0, x -> x.status(11));
        stands(1, x -> x.status(16));
        stands(0, x -> x.status(17));
    }

    private static void order() {
        of("REFUSALS (the call answers the number; nothing changes but how many there were; the first that fits, in this order)",
                3, 5);
        TwoRopes x = hall();
        int[] due = refusals(x);
        Call[] calls = {r -> r.call(7), r -> r.set(1, 0, 0), r -> r.set(2, 0, 0), r -> r.row(0, 0, -1), r -> r.set(0, 5, 0),
            r -> r.start(0, 0), r -> r.row(0, 0, 161)};
        for (int why = 1; why <= 7; why++) {
            for (int time = 0; time < why; time++) {
                due(calls[why - 1].on(x), -why);
                due[why]++;
            }
        }
        for (int why = 1; why <= 7; why++) {
            due(x.status(10 + why), due[why]);
        }

        // Each reason in turn is taken away; what is left is answered.
        refused(-1, y -> y.same(8, 1, -1, true));
        refused(-2, y -> y.same(2, 1, -1, true));
        refused(-3, y -> y.same(2, 0, -1, true));
        refused(-4, y -> y.same(6, 0, -1, true));
        refused(-5, y -> y.same(6, 0, 5, true));
        refused(-6, y -> y.same(5, 0, 5, true));
        stands(0, y -> y.same(5, 0, 3, true));

        of("(Calls that tell P, which may be below 0, answer -2000000000000 and the number.)", 3, 5);
        refused(-2000000000005L, y -> y.now(2));
        refused(-2000000000001L, y -> y.told(8, 0, 0));
        refused(-2000000000002L, y -> y.repeated(1, 0, 0, 0));
        refused(-2000000000006L, y -> y.side(0, 0, 0));
        refused(-2000000000006L, y -> y.over(0, 0, 0));
        refused(-2000000000003L, y -> y.may(2, 0, 0));
        // A P below 0 is no refusal.
        from(-5, 1);
        stands(-5, y -> y.now(0));
        stands(-7, y -> y.side(-2, 1, 0));
        stands(-5, y -> y.told(6, 0, 0));
    }

    private static void reasons() {
        of("-1 NOBODY: no such SHELF, FIGURE, KIND.", 3, 5);
        for (int s : new int[] {-1, 8, LEAST, MOST}) {
            Call[] calls = {x -> x.row(s, 0, 1), x -> x.set(s, 0, 1), x -> x.copy(s, 0, 0, 0, 1), x -> x.copy(0, s, 0, 0, 1),
                x -> x.show(s, 0), x -> x.says(s, 0), x -> x.barn(s), x -> x.judge(s, 1), x -> x.dances(s, 1),
                x -> x.same(s, 0, 1, true), x -> x.same(0, s, 1, true), x -> x.forgot(s, 1), x -> x.show(0, s == -1 ? -2 : s),
                x -> x.call(s), x -> x.says(1, s), x -> x.figure(s, 0, 1)};
            for (Call call : calls) {
                refused(-1, call);
            }
            refused(FAR - 1, x -> x.told(s, 1, 0));
            refused(FAR - 1, x -> x.repeated(s, 1, 1, 0));
            refused(FAR - 1, x -> x.may(s, 1, 0));
            refused(-11, x -> x.bag(s, 1, 0, 0));
        }

        of("-2 OTHER: a SHELF that holds a FIGURE where a ROW is wanted, or the other way about, ROWS of two SORTS,"
                + " a FIGURE that isn't of the KIND wanted, or one under it.", 3, 5);
        wanted(1, 2);
        refused(-2, x -> x.says(0, DANCE));
        refused(-2, x -> x.copy(0, 4, 0, 0, 1));
        refused(-2, x -> x.copy(4, 3, 0, 0, 0));
        refused(-2, x -> x.says(1, MANY));
        stands(9, x -> x.says(1, UNDER));
        stands(9, x -> x.says(1, CHANGE));

        of("-3 NOTHING: a SHELF that holds NOTHING.", 3, 5);
        wanted(2, 3);
        refused(-3, x -> x.says(2, DANCE));

        of("-6 WRONG: a number that may not be (a NUMBER told that isn't in least terms, Q below 0, P or Q beyond 10 to the"
                + " power of 12), a FAULT, what can't be as things stand.", 3, 5);
        long[][] wrong = {{2, 4}, {-6, 3}, {0, 5}, {0, 0}, {3, 0}, {-1, 0}, {1, -2}, {TRILLION + 1, 1}, {-TRILLION - 1, 1},
            {1, TRILLION + 1}, {Long.MIN_VALUE, 1}, {Long.MIN_VALUE, Long.MIN_VALUE}, {1, Long.MAX_VALUE}};
        for (long[] number : wrong) {
            told(number[0], number[1]);
        }
        long[][] right = {{TRILLION, 1}, {-TRILLION, 1}, {-1, TRILLION}, {TRILLION - 1, TRILLION}};
        for (long[] number : right) {
            stands(1, x -> x.start(number[0], number[1]));
            stands(0, x -> x.lot(9, number[0], number[1]));
            stands(UNDER_STEP, x -> x.made(number[0], number[1], 0));
            refused(-15, x -> x.least(number[0], number[1], NONE));
            refused(-15, x -> x.cheapest(number[0], number[1], 1, 1, 1, NONE));
            refused(FAR - 7, x -> x.side(number[0], number[1], 0));
            refused(FAR - 7, x -> x.over(number[0], number[1], 0));
        }

        of("BAG by the first 2 times n elements (P, Q, and so on; longs whole) of the ROW in SHELF s:"
                + " how many STEPS to tell the k-th (i NONE), the i-th of them.", 3, 5);
        TwoRopes x = hall();
        fill(x, 0, 3, 2, 1, (1L << 32) + 2, 1, 1, (1L << 32), TRILLION, 1, 9);
        due(x.bag(0, 4, 0, NONE), 2);
        due(x.bag(0, 4, 0, 1), UNDER_STEP);
        due(x.bag(0, 4, 1, NONE), -15);
        due(x.bag(0, 4, 2, NONE), -15);
        due(x.bag(0, 4, 3, NONE), -15);
        // As ints the first two were alike; the Q of the third would be 0.
        fill(x, 0, 2, 2, 1, (1L << 32) + 2, 1, 1, (1L << 32), 5, 1);
        due(x.bag(0, 4, 0, NONE), -15);
        due(x.bag(0, 4, 2, NONE), 1);
        due(x.bag(0, 4, 2, 0), ON_STEP);
        due(x.bag(0, 4, 3, NONE), 5);
        due(x.set(0, 7, -1), 1);
        due(x.bag(0, 4, 3, NONE), -16);
        due(x.bag(0, 3, 2, NONE), 1);
    }

    /** All that want a ROW, where there is none. */
    private static void wanted(int s, int why) {
        Call[] calls = {x -> x.set(s, 0, 1), x -> x.copy(s, 0, 0, 0, 1), x -> x.copy(0, s, 0, 0, 1), x -> x.barn(s),
            x -> x.judge(s, 1), x -> x.dances(s, 1), x -> x.same(s, 0, 1, true), x -> x.same(0, s, 1, true),
            x -> x.forgot(s, 1)};
        for (Call call : calls) {
            refused(-why, call);
        }
        refused(FAR - why, x -> x.told(s, 1, 0));
        refused(FAR - why, x -> x.repeated(s, 1, 1, 0));
        refused(FAR - why, x -> x.may(s, 1, 0));
        refused(-10 - why, x -> x.bag(s, 1, 0, 0));
    }

    /** All to which a NUMBER is told that may not be. */
    private static void told(long wrongP, long wrongQ) {
        refused(-6, x -> x.start(wrongP, wrongQ));
        refused(-6, x -> x.made(wrongP, wrongQ, 0));
        refused(-6, x -> x.lot(1, wrongP, wrongQ));
        refused(-16, x -> x.least(wrongP, wrongQ, NONE));
        refused(-16, x -> x.cheapest(wrongP, wrongQ, 1, 1, 1, NONE));
        refused(FAR - 6, x -> x.side(wrongP, wrongQ, 0));
        refused(FAR - 6, x -> x.over(wrongP, wrongQ, 0));
        TwoRopes x = hall();
        fill(x, 0, 3, 1, 1, wrongP, wrongQ);
        due(x.bag(0, 2, 0, NONE), -16);
        due(x.bag(0, 2, 1, NONE), -16);
        due(x.bag(0, 1, 0, NONE), 1);
    }

    private static void unchanged() {
        of("3. WHAT COMES OF IT (nothing is changed)", 3, 5);
        Call[] calls = {x -> x.judge(0, 5), x -> x.told(0, 3, 0), x -> x.told(0, 3, 6), x -> x.repeated(0, 3, 2, 2),
            x -> x.repeated(0, 1, 10000, 0), x -> x.same(0, 5, 3, true), x -> x.undo(), x -> x.undoes(3),
            x -> x.made(7, 5, 3), x -> x.least(2, 3, 2), x -> x.cheapest(2, 3, 1, 2, 3, 2), x -> x.side(7, 9, 0),
            x -> x.over(7, 9, 1), x -> x.closed(true), x -> x.coloured(6), x -> x.forgot(4, 7), x -> x.may(4, 7, 2),
            x -> x.kept(9, 50), x -> x.lot(9, 3, 5), x -> x.bag(3, 2, 1, 0), x -> x.says(1, 0), x -> x.figureOf(3, 0),
            x -> x.element(0, 0), x -> x.holds(0), x -> x.fault(), x -> x.now(0), x -> x.stand(0), x -> x.trace(0),
            x -> x.status(0), x -> x.image()};
        for (Call call : calls) {
            TwoRopes x = hall();
            String before = seen(x);
            int[] counts = refusals(x);
            call.on(x);
            if (!seen(x).equals(before)) {
                say("changed " + before + "\n     to " + seen(x));
            }
            for (int why = 1; why <= 7; why++) {
                due(x.status(10 + why), counts[why]);
            }
        }
    }
}
