import java.lang.reflect.InvocationTargetException;
import java.lang.reflect.Method;
import java.util.ArrayList;
import java.util.Arrays;
import java.util.Comparator;
import java.util.List;

/** Runs of calls on a new object, drawn by a fixed rule, each answer held against Plain's. */
public final class RandomRunsTests {
    private static final int CALLS = 512;
    private static final long TRILLION = 1000000000000L;

    private static final Method[] FACE = face();

    private long drawn;
    private final TwoRopes ropes = new TwoRopes();
    private final Plain plain = new Plain();
    private final List<String> run = new ArrayList<>();
    private int calls = 0;
    private boolean alike = true;

    private RandomRunsTests(int number) {
        drawn = number * 0x5DEECE66DL + 11;
    }

    public static void main(String[] args) {
        int runs = args.length > 0 ? Integer.parseInt(args[0]) : 400;
        int first = args.length > 1 ? Integer.parseInt(args[1]) : 1;
        int wrong = 0;
        for (int number = first; number < first + runs && wrong < 5; number++) {
            RandomRunsTests test = new RandomRunsTests(number);
            test.runs();
            if (!test.alike) {
                wrong++;
                System.out.println("run " + number + ":");
                int from = Math.max(0, test.run.size() - 60);
                for (String call : test.run.subList(from, test.run.size())) {
                    System.out.println("  " + call);
                }
            }
        }
        System.out.println(wrong == 0 ? runs + " runs are as Plain has them" : wrong + " runs are not as Plain has them");
        System.exit(wrong == 0 ? 0 : 1);
    }

    private static Method[] face() {
        List<Method> all = new ArrayList<>();
        for (Method method : Plain.class.getMethods()) {
            if (method.getDeclaringClass() == Plain.class) {
                all.add(method);
            }
        }
        all.sort(Comparator.comparing(Method::getName));
        return all.toArray(new Method[0]);
    }

    private int draw(int n) {
        drawn = drawn * 6364136223846793005L + 1442695040888963407L;
        return (int) ((drawn >>> 33) % n);
    }

    private boolean rarely() {
        return draw(12) == 0;
    }

    /** From..to, but now and then a little or far outside. */
    private int near(int from, int to) {
        if (draw(25) == 0) {
            int[] odd = {from - 1, to + 1, from - 2, to + 2, Integer.MIN_VALUE, Integer.MAX_VALUE, -from, 1 << 30};
            return odd[draw(odd.length)];
        }
        return from + draw(to - from + 1);
    }

    private long call(String name, Object... args) {
        if (calls >= CALLS || !alike) {
            return 0;
        }
        for (Method method : FACE) {
            if (method.getName().equals(name)) {
                return call(method, args);
            }
        }
        throw new IllegalArgumentException(name);
    }

    private long call(Method method, Object[] args) {
        calls++;
        String told = method.getName() + Arrays.toString(args);
        try {
            Method mine = TwoRopes.class.getMethod(method.getName(), method.getParameterTypes());
            long got = ((Number) mine.invoke(ropes, args)).longValue();
            long want = ((Number) method.invoke(plain, args)).longValue();
            run.add(told + " = " + got + (got == want ? "" : ", due is " + want));
            alike = got == want;
            return want;
        } catch (InvocationTargetException thrown) {
            thrown.getCause().printStackTrace(System.out);
            run.add(told + " threw " + thrown.getCause());
            alike = false;
            return 0;
        } catch (ReflectiveOperationException missing) {
            throw new IllegalStateException(missing);
        }
    }

    private void runs() {
        if (draw(3) > 0) {
            for (int i = draw(9); i > 0; i--) {
                figure();
            }
        }
        while (calls < CALLS && alike) {
            something();
            if (draw(4) == 0) {
                looks();
            }
        }
    }

    private void looks() {
        call("now", 0);
        call("now", 1);
        for (int corner = 0; corner < 4; corner++) {
            call("stand", corner);
        }
        call("status", draw(5));
        call("status", 11 + draw(7));
        call("fault");
    }

    private void figure() {
        call("figure", near(0, 6), near(0, 9), near(1, 9));
    }

    private int shelf() {
        return near(0, 7);
    }

    private int figures() {
        return plain.status(0);
    }

    /** How many elements there are, as far as this run knows. */
    private int size(int s) {
        return s >= 0 && s < 8 && plain.holds(s) >= 100 ? sizes[s] : 0;
    }

    private final int[] sizes = new int[8];

    private void newRow(int s, int sort, long[] row) {
        call("row", s, sort, row.length);
        if (s >= 0 && s < 8) {
            sizes[s] = row.length;
        }
        for (int i = 0; i < row.length; i++) {
            if (row[i] != 0 || rarely()) {
                call("set", s, i, row[i]);
            }
        }
    }

    private int part(int s) {
        int n = size(s);
        return rarely() ? near(0, n) : draw(3) == 0 ? draw(n + 1) : n;
    }

    private void figuresRow() {
        int[] lengths = {0, 1, 2, 3, 4, 6, 12};
        long[] row = new long[lengths[draw(lengths.length)]];
        for (int i = 0; i < row.length; i++) {
            row[i] = draw(60) == 0 ? draw(10) - 1 : draw(Math.max(1, figures()));
        }
        int sort = draw(4);
        if (sort == 3 && row.length > 0 && rarely()) {
            row[draw(row.length)] |= 1L << 32 + draw(30);
        }
        newRow(draw(8), sort, row);
    }

    private void stepsRow() {
        long[] row = new long[draw(14)];
        for (int i = 0; i < row.length; i++) {
            row[i] = draw(80) == 0 ? draw(8) - 2 : draw(4);
        }
        int s = draw(8);
        newRow(s, draw(4), row);
        call("forgot", s, row.length);
        for (int what = 0; what < 4; what++) {
            call("may", s, row.length, what);
        }
    }

    private void numbersRow() {
        long[] row = new long[2 * draw(5) + draw(2)];
        for (int i = 0; i + 1 < row.length; i += 2) {
            long[] number = draw(4) == 0 ? number() : reached(draw(6));
            row[i] = number[0];
            row[i + 1] = number[1];
        }
        newRow(draw(8), draw(3) == 0 ? 2 : 3, row);
    }

    /** A NUMBER that some STEPS make from 0. */
    private long[] reached(int steps) {
        Plain other = new Plain();
        other.seed(draw(1000000));
        if (steps > 0) {
            other.draws(steps);
        }
        return new long[] {other.now(0), other.now(1)};
    }

    private long[] number() {
        switch (draw(9)) {
            case 0: return new long[] {draw(41) - 20, draw(21)};
            case 1: return new long[] {draw(4001) - 2000, draw(2001)};
            case 2: return new long[] {1, 0};
            case 3: return new long[] {0, 1};
            case 4: return new long[] {draw(5) - 2, draw(4) - 1};
            default: return reached(draw(12));
        }
    }

    /** One that is great, but of which the UNDO isn't too long to be told STEP by STEP. */
    private long[] great() {
        int[] wide = {5, 50, 5000, 40000};
        long from = (rarely() ? 1000000000L : TRILLION) + 2 - draw(wide[draw(4)]);
        switch (draw(6)) {
            case 0: return new long[] {from, 1};
            case 1: return new long[] {-from, 1};
            case 2: return new long[] {1, from};
            case 3: return new long[] {-1, from};
            case 4: return new long[] {from, from - 1 - draw(30)};
            default: return new long[] {-from, from - 1 - draw(30)};
        }
    }

    private boolean isShort() {
        return Math.max(Math.abs(plain.now(0)), plain.now(1)) < 1000000;
    }

    private void put(StringBuilder text) {
        switch (draw(3)) {
            case 0:
                text.append("figure ").append(digits(6)).append(' ').append(digits(9)).append(' ').append(digits(9));
                break;
            case 1:
                text.append("call ").append(digits(Math.max(0, figures())));
                break;
            default:
                long[] number = reached(draw(9));
                text.append("start ").append(Math.abs(number[0])).append(' ').append(number[1]);
                break;
        }
    }

    private String digits(int most) {
        String number = "" + (draw(15) == 0 ? draw(1000) : draw(most + 1));
        return draw(20) == 0 ? "0" + number : number;
    }

    private void text() {
        StringBuilder text = new StringBuilder();
        for (int items = 1 + draw(4); items > 0; items--) {
            put(text);
            text.append(items > 1 || draw(20) == 0 ? ";" : "");
        }
        if (draw(4) == 0 && text.length() > 0) {
            String letters = "figurecalst 0123456789;;  ";
            int place = draw(text.length());
            switch (draw(4)) {
                case 0: text.setLength(place); break;
                case 1: text.deleteCharAt(place); break;
                case 2: text.insert(place, letters.charAt(draw(letters.length()))); break;
                default: text.setCharAt(place, letters.charAt(draw(letters.length()))); break;
            }
        }
        long[] row = new long[text.length()];
        for (int i = 0; i < row.length; i++) {
            row[i] = text.charAt(i);
        }
        int s = draw(8);
        newRow(s, draw(4), row);
        call("barn", s);
        call("fault");
    }

    private void something() {
        int s = shelf();
        switch (draw(40)) {
            case 0: figure(); break;
            case 1: figuresRow(); break;
            case 2: stepsRow(); break;
            case 3: numbersRow(); break;
            case 4: text(); break;
            case 5: call("row", s, near(0, 3), near(0, 160)); note(s); break;
            case 6: call("set", s, near(0, 12), (long) draw(1 << 30) * draw(1 << 20) * (draw(2) * 2 - 1)); break;
            case 7: copies(); break;
            case 8: call("element", s, near(0, 12)); break;
            case 9: call("show", s, near(-1, Math.max(0, figures() - 1))); break;
            case 10: call("holds", s); break;
            case 11: says(); break;
            case 12: call("figureOf", near(0, Math.max(0, figures() - 1)), near(0, 2)); break;
            case 13: starts(); break;
            case 14: call("barn", s); call("fault"); break;
            case 15: call("now", near(0, 1)); call("stand", near(0, 3)); break;
            case 16: case 17: call("call", near(0, Math.max(0, figures() - 1))); break;
            case 18: call("judge", s, part(s)); break;
            case 19: call("told", s, part(s), near(0, 6)); break;
            case 20: call("dances", s, part(s)); break;
            case 21: case 22: repeats(s); break;
            case 23: int t = shelf(); call("same", s, t, Math.min(part(s), part(t)), draw(2) == 0); break;
            case 24: undoes(); break;
            case 25: made(); break;
            case 26: leasts(); break;
            case 27: cheapest(); break;
            case 28: joins(); break;
            case 29: call("closed", draw(2) == 0); call("coloured", near(2, 99)); break;
            case 30: call("forgot", s, part(s)); break;
            case 31: call("may", s, part(s), near(0, 3)); break;
            case 32: call("kept", near(0, 9), rarely() ? (long) near(1, 1000000) : 1L + draw(9)); break;
            case 33: long[] to = draw(2) == 0 ? number() : new long[] {plain.now(0), plain.now(1)};
                call("lot", near(0, 9), to[0], to[1]); break;
            case 34: call("bag", s, rarely() ? near(0, 5) : size(s) / 2, near(0, Math.max(0, size(s) / 2 - 1)), near(-1, 7)); break;
            case 35: call("frees", near(0, 40)); break;
            case 36: call("draws", near(1, 40)); call("status", 3); break;
            case 37: call("seed", draw(5) == 0 ? near(-5, 5) : draw(1 << 30) * 4); break;
            case 38: acts(); break;
            default: images(); break;
        }
    }

    private void note(int s) {
        String last = run.get(run.size() - 1);
        if (s >= 0 && s < 8 && last.endsWith("= 1")) {
            String[] words = last.split("[,\\]]");
            sizes[s] = Integer.parseInt(words[2].trim());
        }
    }

    private void copies() {
        int p = shelf();
        int q = shelf();
        int n = rarely() ? near(0, 9) : draw(1 + Math.min(size(p), size(q)));
        call("copy", p, q, near(0, Math.max(0, size(p) - n)), near(0, Math.max(0, size(q) - n)), n);
        for (int i = 0; i < 6; i++) {
            call("element", q, i);
        }
    }

    private void says() {
        int s = draw(8);
        if (figures() > 0 && draw(3) > 0) {
            call("show", s, draw(figures()));
        }
        call("says", s, near(0, 6));
    }

    private void starts() {
        long[] number = draw(3) == 0 ? great() : number();
        call("start", number[0], number[1]);
    }

    private void repeats(int s) {
        if (draw(3) == 0) {
            figuresRow();
        }
        int n = part(s);
        int t = draw(4) == 0 ? near(0, 60) : near(0, 10000);
        for (int what = 0; what < 3; what++) {
            call("repeated", s, n, t, what);
        }
        if (rarely()) {
            call("repeated", s, n, t, near(0, 2));
        }
    }

    private void undoes() {
        if (isShort()) {
            long count = call("undo");
            call("undoes", (long) near(0, (int) Math.max(0, count)));
            call("undoes", (long) draw((int) Math.max(1, count)));
            call("undoes", count - 1 - draw(4));
            call("undoes", (long) draw(4));
        }
    }

    private void made() {
        long[] number = number();
        for (int i = 3; i > 0; i--) {
            call("made", number[0], number[1], (long) near(0, draw(3) == 0 ? 200 : 12));
        }
    }

    private void leasts() {
        long[] number = number();
        call("least", number[0], number[1], -1);
        call("least", number[0], number[1], near(-1, 8));
    }

    private void cheapest() {
        long[] number = rarely() ? number() : reached(draw(9));
        int x = near(1, 9);
        int y = near(1, 9);
        int z = near(1, 9);
        call("cheapest", number[0], number[1], x, y, z, -1);
        call("cheapest", number[0], number[1], x, y, z, near(-1, 6));
    }

    private void joins() {
        long[] number = draw(4) == 0 ? great() : number();
        if (draw(5) == 0) {
            number = new long[] {-plain.now(0), plain.now(1)};
        }
        String name = draw(2) == 0 ? "side" : "over";
        call(name, number[0], number[1], 0);
        call(name, number[0], number[1], 1);
        call(name, number[0], number[1], near(0, 1));
    }

    private void acts() {
        call("act", near(0, Math.max(0, figures() - 1)), near(0, 2), draw(1 << 30) * 4 + draw(4));
        for (int i = 0; i < 9; i++) {
            call("trace", i);
        }
        call("trace", near(0, 20));
        call("status", 4);
    }

    private void images() {
        int which = draw(3);
        call(which == 0 ? "image" : which == 1 ? "restore" : "status", which == 2 ? new Object[] {near(0, 18)} : new Object[0]);
        if (which == 1) {
            for (int s = 0; s < 8; s++) {
                call("holds", s);
            }
        }
    }
}
