import java.util.ArrayList;
import java.util.List;

/** What the class counts by runs or leaves out, held against counting it: UNDO of great NUMBERS, a DANCE many times. */
public final class LongWaysTests {
    private static final long TRILLION = 1000000000000L;
    private static final long NO_ROOM = -2000000000007L;
    private static final int MOST_RUNS = 20000;
    private static final int MOST_TIMES = 10000;

    private static long drawn = 20;
    private static int wrong = 0;
    private static int held = 0;

    public static void main(String[] args) {
        for (int i = 0; i < 4000; i++) {
            undone();
        }
        for (int i = 0; i < 400; i++) {
            repeated();
        }
        boolean holds = wrong == 0 && held > 3000;
        System.out.println(holds ? held + " long ways are as counted" : wrong + " of " + held + " long ways are not as counted");
        System.exit(holds ? 0 : 1);
    }

    private static long draw(long below) {
        drawn = drawn * 6364136223846793005L + 1442695040888963407L;
        return Math.floorMod(drawn >>> 20, below);
    }

    private static void due(String what, long got, long want) {
        if (got != want) {
            wrong++;
            System.out.println(what + " answered " + got + ", due is " + want);
        }
    }

    private static long divisor(long a, long b) {
        return b == 0 ? a : divisor(b, a % b);
    }

    /** A NUMBER of any width, now and then one near 1. */
    private static long[] number() {
        long q = 1 + draw(Math.min(1L << 1 + draw(40), TRILLION));
        long p = draw(6) == 0 ? Math.max(0, q - 1 - draw(5)) : draw(1 + Math.min(1L << 1 + draw(40), TRILLION));
        long common = divisor(p, q);
        return new long[] {(draw(2) == 0 ? p : -p) / common, q / common};
    }

    /** UNDO by runs of one and the same STEP: STEP, how many; null: too many runs. */
    private static List<long[]> runs(long fromP, long fromQ) {
        List<long[]> runs = new ArrayList<>();
        long p = fromP;
        long q = fromQ;
        while (p != 0 && runs.size() < MOST_RUNS) {
            if (p < 0) {
                long over = (-p + q - 1) / q;
                runs.add(new long[] {0, over});
                p += over * q;
            } else {
                runs.add(new long[] {2, 1});
                long turned = p;
                p = -q;
                q = turned;
            }
        }
        return p == 0 ? runs : null;
    }

    private static void undone() {
        long[] number = number();
        List<long[]> runs = runs(number[0], number[1]);
        if (runs == null) {
            return;
        }
        held++;
        TwoRopes x = new TwoRopes();
        String what = number[0] + " by " + number[1] + ": ";
        due(what + "start", x.start(number[0], number[1]), 1);
        long count = 0;
        for (long[] run : runs) {
            count += run[1];
        }
        due(what + "undo", x.undo(), count);
        for (int i = 0; i < 10; i++) {
            place(x, number, runs, count, i < 2 ? i : i < 4 ? count + 1 - i : draw(count + 1));
        }
    }

    private static void place(TwoRopes x, long[] number, List<long[]> runs, long count, long place) {
        long step = -1;
        long before = 0;
        for (long[] run : runs) {
            if (place >= before && place < before + run[1]) {
                step = run[0];
            }
            before += run[1];
        }
        String what = number[0] + " by " + number[1] + ", place " + place + ": ";
        due(what + "undoes", x.undoes(place), step == -1 ? -5 : step);
        due(what + "made", x.made(number[0], number[1], count - 1 - place), step == -1 ? -5 : step == 0 ? 1 : 2);
    }

    /** A DANCE that may come to where there is no ROOM: about that, and at the end, against dancing it one by one. */
    private static void repeated() {
        TwoRopes x = new TwoRopes();
        Plain plain = new Plain();
        int figures = 1 + (int) draw(5);
        for (int i = 0; i < figures; i++) {
            int kind = (int) draw(7);
            int a = (int) draw(10);
            x.figure(kind, a, 1);
            plain.figure(kind, a, 1);
        }
        int n = 1 + (int) draw(7);
        x.row(0, 0, n);
        plain.row(0, 0, n);
        for (int i = 0; i < n; i++) {
            long figure = draw(figures);
            x.set(0, i, figure);
            plain.set(0, i, figure);
        }
        long wide = TRILLION - draw(6000);
        long p = draw(2) == 0 ? wide : draw(3) - 1;
        long q = Math.abs(p) == 1 ? wide : 1;
        due("start", x.start(draw(2) == 0 ? p : -p, q), 1);
        plain.start(x.now(0), x.now(1));
        held++;
        compare(x, plain, n);
    }

    private static void compare(TwoRopes x, Plain plain, int n) {
        long[] ps = new long[MOST_TIMES + 1];
        long[] dancers = new long[MOST_TIMES + 1];
        int room = -1;
        for (int t = 0; t <= MOST_TIMES && room == t - 1; t++) {
            if (t == 0 || plain.dances(0, n) >= 0) {
                ps[t] = plain.now(0);
                dancers[t] = plain.stand(0);
                room = t;
            }
        }
        for (int t = Math.max(0, room - 14); t <= Math.min(MOST_TIMES, room + 14); t++) {
            String what = "repeated " + t + " times";
            due(what, x.repeated(0, n, t, 0), t <= room ? ps[t] : NO_ROOM);
            due(what, x.repeated(0, n, t, 2), t <= room ? dancers[t] : NO_ROOM);
        }
    }
}
