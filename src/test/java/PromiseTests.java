/** For each promise of the document: ordinary calls, the edges that it names, and wrong ones, with the answers due. */
public final class PromiseTests extends Sentences {
    /** Goes on to a promise. */
    private static void go(int number) {
        begin("## Promise " + number + ":");
    }

    private static TwoRopes on(int number) {
        go(number);
        return new TwoRopes();
    }

    private static int barn(TwoRopes x, int s, String text) {
        x.row(s, 0, text.length());
        for (int i = 0; i < text.length(); i++) {
            x.set(s, i, text.charAt(i));
        }
        return x.barn(s);
    }

    /** Reads a text that has a FAULT: its place. */
    private static int fault(TwoRopes x, String text) {
        due(barn(x, 7, text), -6);
        return x.fault();
    }

    private static TwoRopes withKinds(int number, int a) {
        return withKinds("## Promise " + number + ":", a);
    }

    public static void main(String[] args) {
        shelves();
        figures();
        barns();
        barnFaults();
        truth();
        dances();
        repeats();
        undone();
        made();
        joined();
        forgotten();
        counted();
        bags();
        draws();
        acts();
        images();
        statuses();
        end();
    }

    private static void shelves() {
        TwoRopes x = on(1);
        due(x.status(0), 0);
        now(x, 0, 1);
        stand(x, 0, 1, 2, 3);
        due(x.fault(), NONE);
        due(x.status(1), 0);
        due(x.status(2), 0);
        due(x.status(3), 1);
        for (int s = 0; s < 8; s++) {
            due(x.holds(s), NONE);
        }

        x = on(2);
        due(x.row(0, 0, 0), 1);
        due(x.row(7, 3, 160), 1);
        due(x.row(-1, 9, -1), -1);
        due(x.row(8, 0, 0), -1);
        due(x.row(0, 9, -1), -4);
        due(x.row(0, -1, 161), -6);
        due(x.row(0, 4, 0), -6);
        due(x.row(0, 0, 161), -7);
        due(x.row(0, 0, Integer.MAX_VALUE), -7);
        due(x.holds(0), 100);
        due(x.holds(7), 103);
        due(x.set(7, 159, 5), 1);
        due(x.row(7, 3, 160), 1);
        due(x.element(7, 159), 0);
        due(x.row(7, 2, 3), 1);
        due(x.row(7, 5, 3), -6);
        due(x.holds(7), 102);

        x = on(3);
        due(x.set(-1, 0, 0), -1);
        due(x.set(8, 0, 0), -1);
        due(x.set(0, 0, 0), -3);
        x.figure(0, 0, 1);
        x.show(0, 0);
        due(x.set(0, 0, 0), -2);
        for (int sort = 0; sort < 4; sort++) {
            due(x.row(sort, sort, 2), 1);
            due(x.set(sort, 0, 0x123456789ABCDEF0L), 1);
            due(x.set(sort, 1, -2), 1);
            due(x.set(sort, 2, 1), -5);
            due(x.set(sort, -1, 1), -5);
            due(x.element(sort, 1), -2);
        }
        due(x.element(0, 0), -16);
        due(x.element(1, 0), (short) 0xDEF0);
        due(x.element(2, 0), 0x9ABCDEF0);
        due(x.element(3, 0), 0x123456789ABCDEF0L);
        due(x.set(0, 0, 128), 1);
        due(x.element(0, 0), -128);

        x = on(4);
        fill(x, 0, 2, 1, 2, 3, 4, 5);
        fill(x, 1, 2, 9, 9, 9);
        fill(x, 2, 3, 9, 9, 9);
        x.figure(0, 0, 1);
        x.show(3, 0);
        due(x.copy(0, 1, 3, 1, 2), 1);
        due(x.element(1, 0), 9);
        due(x.element(1, 1), 4);
        due(x.element(1, 2), 5);
        due(x.copy(0, 0, 0, 1, 4), 1);
        for (int i = 0; i < 5; i++) {
            due(x.element(0, i), i == 0 ? 1 : i);
        }
        due(x.copy(0, 0, 2, 0, 3), 1);
        due(x.element(0, 0), 2);
        due(x.element(0, 2), 4);
        due(x.copy(0, 1, 5, 3, 0), 1);
        due(x.copy(-1, 0, 0, 0, 0), -1);
        due(x.copy(3, 8, 0, 0, 0), -1);
        due(x.copy(0, 2, 0, 0, -1), -2);
        due(x.copy(0, 3, 0, 0, 0), -2);
        due(x.copy(3, 4, 0, 0, 0), -2);
        due(x.copy(3, 3, 0, 0, 0), -2);
        due(x.copy(2, 4, 0, 0, 0), -3);
        due(x.copy(4, 0, 0, 0, -1), -3);
        due(x.copy(0, 1, -1, 0, -1), -4);
        due(x.copy(0, 1, -1, 0, 1), -5);
        due(x.copy(0, 1, 0, -1, 1), -5);
        due(x.copy(0, 1, 3, 0, 3), -5);
        due(x.copy(0, 1, 0, 1, 3), -5);
        due(x.copy(0, 1, 6, 0, 0), -5);
        due(x.copy(0, 1, Integer.MAX_VALUE, 0, Integer.MAX_VALUE), -5);
        due(x.status(14), 1);
        due(x.status(15), 6);

        x = on(5);
        fill(x, 0, 1, 7);
        due(x.element(0, 0), 7);
        due(x.element(0, 1), 0);
        due(x.element(0, -1), 0);
        due(x.element(1, 0), 0);
        due(x.element(8, 0), 0);
        due(x.element(-1, 0), 0);
        for (int why = 11; why <= 17; why++) {
            due(x.status(why), 0);
        }

        x = on(6);
        due(x.show(0, 0), -1);
        x.figure(0, 0, 1);
        due(x.show(0, 0), 1);
        due(x.show(8, 0), -1);
        due(x.show(-1, NONE), -1);
        due(x.show(0, 1), -1);
        due(x.show(0, -2), -1);
        due(x.holds(0), 0);
        due(x.show(0, NONE), 0);
        due(x.holds(0), NONE);
        x.row(0, 0, 3);
        due(x.show(0, NONE), 0);
        due(x.holds(0), NONE);

        x = on(7);
        x.figure(0, 0, 1);
        x.figure(0, 0, 1);
        x.show(4, 1);
        due(x.holds(4), 1);
        due(x.holds(-1), NONE);
        due(x.holds(8), NONE);
        due(x.holds(3), NONE);
        x.row(4, 3, 0);
        due(x.holds(4), 103);
        due(x.status(11), 0);
    }

    private static void figures() {
        TwoRopes x = withKinds(8, 6);
        // What each KIND says, taken for each KIND.
        int[][] says = {
            {1, -2, -2, -2, -2, -2, -2}, {2, 1, -2, -2, -2, -2, -2}, {3, 9, 9, -2, -2, -2, -2}, {4, 6, -2, 6, -2, -2, -2},
            {5, -2, -2, -2, 1, -2, -2}, {6, -2, -2, -2, 3, 3, -2}, {7, -2, -2, -2, 2, -2, 2}};
        for (int kind = 0; kind < 7; kind++) {
            x.show(0, kind);
            for (int as = 0; as < 7; as++) {
                due(x.says(0, as), says[kind][as]);
            }
        }
        due(x.says(0, 7), -1);
        due(x.says(0, -1), -1);
        due(x.says(8, 0), -1);
        due(x.says(1, 0), -3);
        due(x.says(1, 7), -1);
        x.row(1, 0, 1);
        due(x.says(1, 0), -2);
        x.figure(6, 9, 1);
        x.show(2, 7);
        due(x.says(2, 6), 1);

        x = on(9);
        due(x.figure(-1, 10, 0), -1);
        due(x.figure(7, 0, 1), -1);
        due(x.figure(0, -1, 1), -6);
        due(x.figure(0, 10, 1), -6);
        due(x.figure(0, 0, 0), -6);
        due(x.figure(0, 0, 10), -6);
        for (int m = 0; m < 8; m++) {
            due(x.figure(m % 7, 9 - m, 9 - m), m);
        }
        due(x.figure(0, 0, 1), -7);
        due(x.figure(0, 0, 0), -6);
        due(x.figure(7, 0, 1), -1);
        due(x.status(0), 8);

        go(10);
        for (int m = 0; m < 8; m++) {
            due(x.figureOf(m, 0), m % 7);
            due(x.figureOf(m, 1), 9 - m);
            due(x.figureOf(m, 2), 9 - m);
        }
        due(x.figureOf(8, 0), -5);
        due(x.figureOf(-1, 0), -5);
        due(x.figureOf(0, 3), -5);
        due(x.figureOf(0, -1), -5);
        due(new TwoRopes().figureOf(0, 0), -5);

        x = on(11);
        due(x.start(TRILLION, TRILLION - 1), 1);
        now(x, TRILLION, TRILLION - 1);
        due(x.start(-TRILLION, 1), 1);
        due(x.start(-TRILLION - 1, 1), -6);
        due(x.start(TRILLION + 1, 1), -6);
        due(x.start(1, TRILLION + 1), -6);
        due(x.start(1, TRILLION), 1);
        due(x.start(2, 4), -6);
        due(x.start(-2, 4), -6);
        due(x.start(1, -1), -6);
        due(x.start(0, 0), -6);
        due(x.start(0, 2), -6);
        due(x.start(-1, 0), -6);
        due(x.start(2, 0), -6);
        due(x.start(Long.MIN_VALUE, 1), -6);
        due(x.start(1, Long.MIN_VALUE), -6);
        now(x, 1, TRILLION);
        due(x.start(1, 0), 1);
        now(x, 1, 0);
        x.figure(1, 0, 1);
        x.call(0);
        due(x.start(0, 1), 1);
        now(x, 0, 1);
        stand(x, 0, 2, 1, 3);
    }

    private static void barns() {
        TwoRopes x = on(12);
        due(barn(x, 0, "figure 1 0 2;figure 4 9 9;start 7 3;call 1;call 0"), 5);
        due(x.fault(), NONE);
        now(x, 4, 7);
        stand(x, 3, 1, 0, 2);
        due(x.status(0), 2);
        due(x.status(1), 2);
        due(x.status(2), 11);
        due(x.figureOf(1, 1), 9);
        due(barn(x, 0, "start 1 0"), 1);
        now(x, 1, 0);
        due(barn(x, 0, "start 000 001"), 1);
        now(x, 0, 1);
        stand(x, 3, 1, 0, 2);
        due(barn(x, 0, "start 999 998;call 000"), 2);
        now(x, 1997, 998);
        due(barn(x, 0, "figure 003 009 009"), 1);
        due(x.figureOf(2, 0), 3);
        fill(x, 1, 3, 'c' + (1L << 32), 'a', 'l', 'l' - (7L << 40), ' ', '0');
        due(x.barn(1), 1);
        due(x.barn(-1), -1);
        due(x.barn(8), -1);
        due(x.barn(5), -3);
        x.show(5, 0);
        due(x.barn(5), -2);
        due(x.fault(), NONE);
        // All or nothing.
        due(barn(x, 0, "start 5 7;call 0;figure 0 0 1;start 2 4"), -6);
        now(x, 2995, 998);
        due(x.status(0), 3);
        due(x.status(1), 4);
        due(x.status(12), 1);
        due(x.status(16), 1);
        due(x.figure(6, 0, 1), 3);
        due(x.figureOf(3, 0), 6);
        // No ROOM: N.
        x.start(TRILLION - 1, 1);
        due(fault(x, "call 0;call 0;call 0"), 12);
        now(x, TRILLION - 1, 1);
        due(fault(x, "call 2;x"), 5);
    }

    private static void barnFaults() {
        TwoRopes x = on(13);
        due(x.fault(), NONE);
        due(x.barn(0), -3);
        due(x.fault(), NONE);
        due(fault(x, ""), 0);
        due(fault(x, "x"), 0);
        due(fault(x, " "), 0);
        due(fault(x, ";"), 0);
        due(fault(x, "f"), 1);
        due(fault(x, "fi"), 2);
        due(fault(x, "fx"), 1);
        due(fault(x, "figure"), 6);
        due(fault(x, "figurE"), 5);
        due(fault(x, "figure1"), 6);
        due(fault(x, "figure "), 7);
        due(fault(x, "figure  1"), 7);
        due(fault(x, "figure x"), 7);
        due(fault(x, "figure -1 0 1"), 7);
        due(fault(x, "figure 7 0 1"), 7);
        due(fault(x, "figure 7"), 7);
        due(fault(x, "figure 7x"), 7);
        due(fault(x, "figure 1"), 8);
        due(fault(x, "figure 1x"), 8);
        due(fault(x, "figure 1;"), 8);
        due(fault(x, "figure 12 0 1"), 7);
        due(fault(x, "figure 0001 0 1"), 10);
        due(fault(x, "figure 1000 0 1"), 7);
        due(fault(x, "figure 1 10 1"), 9);
        due(fault(x, "figure 1 0 0"), 11);
        due(fault(x, "figure 1 0 10"), 11);
        due(fault(x, "figure 1 0 1 "), 12);
        due(fault(x, "figure 1 0 1;"), 13);
        due(fault(x, "figure 1 0 1;;"), 13);
        due(fault(x, "figure 1 0 1; figure 1 0 1"), 13);
        due(fault(x, "figure 1 0 1call 0"), 12);
        due(fault(x, "figure 1 0 1;call 1"), 18);
        due(fault(x, "call 0"), 5);
        due(fault(x, "call 0x"), 5);
        due(fault(x, "call"), 4);
        due(fault(x, "cal"), 3);
        due(fault(x, "cale"), 3);
        due(fault(x, "start 1"), 7);
        due(fault(x, "start 1 "), 8);
        due(fault(x, "start 1  "), 8);
        due(fault(x, "start -1 1"), 6);
        due(fault(x, "start 1234 1"), 9);
        due(fault(x, "start 1 1000"), 11);
        due(fault(x, "start 2 4"), 8);
        due(fault(x, "start 2 4x"), 8);
        due(fault(x, "start 2 0"), 8);
        due(fault(x, "start 0 0"), 8);
        due(fault(x, "start 0 2;call 0"), 8);
        due(fault(x, "start 1 0;start 2 0"), 18);
        due(x.status(0), 0);
        due(x.barn(9), -1);
        due(x.fault(), 18);
        // No ROOM for the word once it stands whole.
        for (int i = 0; i < 7; i++) {
            x.figure(1, 0, 1);
        }
        due(fault(x, "figure 1 0 1;figur"), 18);
        due(fault(x, "figure 1 0 1;figurx"), 18);
        due(fault(x, "figure 1 0 1;figure"), 13);
        due(fault(x, "figure 1 0 1;figurex"), 13);
        due(fault(x, "figure 1 0 1;figure 9"), 13);
        due(x.status(0), 7);
        due(barn(x, 0, "figure 1 0 1;call 7"), 2);
        due(x.fault(), NONE);
        due(fault(x, "call 8"), 5);
        due(barn(x, 0, "call 7"), 1);
        due(x.fault(), NONE);
    }

    private static void truth() {
        TwoRopes x = on(14);
        now(x, 0, 1);
        due(x.now(2), FAR - 5);
        due(x.now(-1), FAR - 5);
        due(x.status(15), 2);

        x = on(15);
        stand(x, 0, 1, 2, 3);
        due(x.stand(4), -5);
        due(x.stand(-1), -5);

        x = withKinds(16, 3);
        due(x.call(0), 1);
        now(x, 0, 1);
        stand(x, 0, 1, 2, 3);
        due(x.call(1), 2);
        now(x, 1, 1);
        stand(x, 0, 2, 1, 3);
        due(x.call(2), 3);
        now(x, 0, 1);
        stand(x, 0, 1, 2, 3);
        due(x.call(2), 4);
        now(x, -1, 1);
        due(x.call(3), 5);
        now(x, 2, 1);
        stand(x, 0, 1, 2, 3);
        due(x.call(4), 6);
        now(x, -1, 2);
        stand(x, 3, 0, 1, 2);
        due(x.call(4), 7);
        now(x, 2, 1);
        due(x.call(5), 8);
        now(x, -1, 2);
        stand(x, 3, 0, 1, 2);
        due(x.call(6), 9);
        now(x, 2, 1);
        stand(x, 0, 1, 2, 3);
        due(x.status(1), 9);
        due(x.status(2), 1 + 2 + 3 + 3 + 4 + 5 + 5 + 6 + 7);
        due(x.call(7), -1);
        due(x.call(-1), -1);
        x.start(0, 1);
        x.call(4);
        now(x, 1, 0);
        x.call(1);
        now(x, 1, 0);
        x.call(2);
        x.call(3);
        now(x, 1, 0);
        x.call(5);
        now(x, 0, 1);
        x.start(TRILLION, 1);
        due(x.call(1), -7);
        due(x.call(3), -7);
        due(x.call(0), 15);
        x.start(-TRILLION, TRILLION - 1);
        due(x.call(2), -7);
        due(x.call(1), 16);
        now(x, -1, TRILLION - 1);
        x.start(TRILLION - 2, 1);
        due(x.call(3), -7);
        now(x, TRILLION - 2, 1);
        due(x.status(1), 16);
        due(x.status(17), 4);

        x = withKinds(16, 0);
        x.start(3, 5);
        x.call(3);
        x.call(6);
        now(x, 3, 5);
        stand(x, 0, 1, 2, 3);
        x = withKinds(16, 4);
        x.start(3, 5);
        x.call(6);
        now(x, 3, 5);
        stand(x, 0, 1, 2, 3);
        x.call(3);
        now(x, 23, 5);
        stand(x, 0, 1, 2, 3);
    }

    private static void dances() {
        TwoRopes x = withKinds(17, 2);
        fill(x, 0, 0, 1, 1, 4, 7, -1);
        due(x.judge(0, 3), NONE);
        due(x.judge(0, 0), NONE);
        due(x.judge(0, 5), 3);
        due(x.judge(0, 6), -5);
        due(x.judge(0, -1), -4);
        due(x.judge(1, -1), -3);
        due(x.judge(8, -1), -1);
        x.show(1, 0);
        due(x.judge(1, -1), -2);
        fill(x, 2, 3, 1L << 32, (1L << 35) + 6, -1);
        due(x.judge(2, 2), NONE);
        due(x.judge(2, 3), 2);
        x.start(TRILLION - 1, 1);
        due(x.judge(0, 5), 1);
        due(x.judge(0, 1), NONE);
        due(x.status(1), 0);

        go(18);
        x.start(1, 2);
        due(x.told(0, 3, 0), -2);
        due(x.told(0, 3, 1), 5);
        due(x.told(0, 3, 2), 3);
        due(x.told(0, 3, 3), 0);
        due(x.told(0, 3, 4), 1);
        due(x.told(0, 3, 5), 2);
        due(x.told(0, 3, 6), 2 + 2 + 5);
        due(x.told(0, 0, 6), 0);
        due(x.told(0, 3, 7), FAR - 5);
        due(x.told(0, 3, -1), FAR - 5);
        due(x.told(0, 6, 0), FAR - 5);
        due(x.told(0, 4, 7), FAR - 5);
        due(x.told(0, 4, 0), FAR - 6);
        due(x.told(0, -1, 7), FAR - 4);
        due(x.told(3, -1, 7), FAR - 3);
        due(x.told(1, -1, 7), FAR - 2);
        due(x.told(-1, -1, 7), FAR - 1);
        x.start(TRILLION, 1);
        due(x.told(0, 1, 0), FAR - 6);
        now(x, TRILLION, 1);
        stand(x, 0, 1, 2, 3);
        due(x.status(1), 0);

        go(19);
        x.start(1, 2);
        due(x.dances(0, 5), -6);
        due(x.dances(0, 6), -5);
        due(x.dances(0, -1), -4);
        due(x.dances(3, 0), -3);
        due(x.dances(1, 0), -2);
        due(x.dances(8, 0), -1);
        due(x.status(1), 0);
        now(x, 1, 2);
        due(x.dances(0, 3), 3);
        due(x.dances(0, 0), 3);
        now(x, -2, 5);
        stand(x, 3, 0, 1, 2);
        due(x.status(2), 9);
        x.start(TRILLION - 1, 1);
        due(x.dances(0, 2), -6);
        now(x, TRILLION - 1, 1);
        due(x.status(2), 9);

        x = withKinds(21, 2);
        fill(x, 0, 0, 1, 4, 1, 4);
        fill(x, 1, 3, 4, 2, 4, 2);
        due(x.same(0, 1, 4, false), 0);
        fill(x, 1, 3, 4, 1, 4, 1);
        // 0: 1, -1, 0, BEYOND; the other way BEYOND, BEYOND, 0, 1.
        due(x.same(0, 1, 4, false), 0);
        due(x.same(0, 1, 0, true), 1);
        fill(x, 2, 0, 3);
        fill(x, 3, 0, 0);
        fill(x, 4, 0, 4);
        fill(x, 5, 0, 5);
        due(x.same(4, 5, 1, false), 1);
        due(x.same(4, 5, 1, true), 0);
        due(x.same(2, 3, 1, false), 0);
        x.start(1, 0);
        due(x.same(2, 3, 1, false), 1);
        due(x.same(2, 3, 1, true), 1);
        due(x.same(2, 8, 1, true), -1);
        x.show(6, 0);
        due(x.same(7, 6, 1, true), -2);
        due(x.same(6, 0, -1, true), -2);
        due(x.same(7, 0, -1, true), -3);
        due(x.same(0, 7, 1, true), -3);
        due(x.same(0, 2, -1, true), -4);
        due(x.same(0, 2, 2, true), -5);
        due(x.same(2, 0, 2, true), -5);
        x.set(3, 0, 7);
        due(x.same(2, 3, 1, true), -6);
        due(x.same(3, 2, 1, true), -6);
    }

    private static void repeats() {
        TwoRopes x = withKinds(20, 2);
        fill(x, 0, 0, 1, 4, 7);
        due(x.repeated(0, 2, 3, 0), 0);
        due(x.repeated(0, 2, 3, 1), 1);
        due(x.repeated(0, 2, 1, 0), -1);
        due(x.repeated(0, 2, 1, 2), 3);
        due(x.repeated(0, 2, 2, 0), 1);
        due(x.repeated(0, 2, 2, 1), 0);
        due(x.repeated(0, 2, 10000, 0), -1);
        due(x.repeated(0, 2, 9999, 0), 0);
        due(x.repeated(0, 2, 0, 0), 0);
        due(x.repeated(0, 0, 10000, 1), 1);
        due(x.repeated(0, 1, 10000, 0), 10000);
        due(x.repeated(0, 1, 9999, 0), 9999);
        due(x.repeated(0, 2, 10001, 0), FAR - 6);
        due(x.repeated(0, 2, -1, 0), FAR - 6);
        due(x.repeated(0, 3, 0, 0), FAR - 6);
        due(x.repeated(0, 2, 10001, 3), FAR - 5);
        due(x.repeated(0, 2, 1, -1), FAR - 5);
        due(x.repeated(0, 4, 1, 0), FAR - 5);
        due(x.repeated(0, -1, 1, 0), FAR - 4);
        due(x.repeated(1, -1, 1, 0), FAR - 3);
        x.show(1, 0);
        due(x.repeated(1, -1, 1, 0), FAR - 2);
        due(x.repeated(8, -1, 1, 0), FAR - 1);
        // 2 more each time, with one turned over between: 1 by 0 is where 1 by Q goes.
        fill(x, 2, 0, 3);
        x.start(TRILLION - 20000, 1);
        due(x.repeated(2, 1, 10000, 0), TRILLION);
        x.start(TRILLION - 19999, 1);
        due(x.repeated(2, 1, 10000, 0), FAR - 7);
        due(x.repeated(2, 1, 9999, 0), TRILLION - 1);
        due(x.repeated(0, 3, 9999, 0), FAR - 6);
        x.start(-TRILLION, 3);
        due(x.repeated(2, 1, 10000, 0), -TRILLION + 60000);
        // Two more, two less: what is furthest from 0 is between.
        fill(x, 3, 0, 3, 3, 2, 2, 2, 2);
        x.start(TRILLION - 4, 1);
        due(x.repeated(3, 2, 1, 0), TRILLION);
        due(x.repeated(3, 3, 1, 0), TRILLION - 1);
        due(x.repeated(3, 6, 10000, 0), TRILLION - 4);
        due(x.repeated(3, 5, 2, 0), FAR - 7);
        x.start(TRILLION - 10003, 1);
        due(x.repeated(3, 5, 10000, 0), TRILLION - 3);
        x.start(TRILLION - 10002, 1);
        due(x.repeated(3, 5, 10000, 0), FAR - 7);
        // TURN, UNDER, TURN: Q is more by P each time.
        fill(x, 4, 0, 4, 2, 4);
        x.start(1, TRILLION - 10000);
        due(x.repeated(4, 3, 10000, 1), TRILLION);
        due(x.repeated(4, 3, 10000, 0), 1);
        x.start(1, TRILLION - 9999);
        due(x.repeated(4, 3, 10000, 1), FAR - 7);
        x.start(-1, TRILLION);
        due(x.repeated(4, 3, 10000, 1), TRILLION - 10000);
        // MANY and UNDER by turns: it grows by more and more, until there is no ROOM.
        fill(x, 5, 0, 3, 5, 2, 5);
        x.start(0, 1);
        due(x.repeated(5, 4, 10000, 0), FAR - 7);
        due(x.repeated(5, 4, 1, 0), 2);
        due(x.repeated(5, 4, 1, 1), 3);
        fill(x, 6, 0, 5, 1);
        due(x.repeated(6, 2, 2, 2), 3);
        due(x.repeated(6, 2, 3, 2), 0);
        due(x.repeated(6, 2, 10000, 2), 1);
        now(x, 0, 1);
        due(x.status(1), 0);
        due(x.status(16), 4);
        due(x.status(17), 5);
    }

    private static void undone() {
        TwoRopes x = on(22);
        due(x.undo(), 0);
        x.start(1, 0);
        due(x.undo(), 1);
        x.start(-3, 1);
        due(x.undo(), 3);
        // 3: -1/3, 2/3, -3/2, -1/2, 1/2, -2, -1, 0.
        x.start(3, 1);
        due(x.undo(), 8);
        int[] steps = {2, 0, 2, 0, 0, 2, 0, 0};
        go(23);
        for (int i = 0; i < steps.length; i++) {
            due(x.undoes(i), steps[i]);
        }
        due(x.undoes(8), -5);
        due(x.undoes(-1), -5);
        due(x.undoes(Long.MIN_VALUE), -5);
        due(x.undoes(Long.MAX_VALUE), -5);
        go(24);
        due(x.made(3, 1, 0), 1);
        for (int i = 0; i < steps.length; i++) {
            due(x.made(3, 1, i), steps[steps.length - 1 - i] == 0 ? 1 : 2);
        }
        due(x.made(3, 1, 8), -5);
        due(x.made(3, 1, -1), -5);
        due(x.made(0, 1, 0), -5);
        due(x.made(1, 0, 0), 2);
        due(x.made(-2, 1, 1), 1);
        due(x.made(2, 4, -1), -6);
        due(x.made(1, -2, 0), -6);
        due(x.made(TRILLION + 1, 1, 0), -6);
        due(x.made(TRILLION, 1, 3 * TRILLION - 2), 2);
        due(x.made(TRILLION, 1, 3 * TRILLION - 1), -5);
        due(x.made(TRILLION, 1, 0), 1);

        go(22);
        x.start(TRILLION, 1);
        due(x.undo(), 3 * TRILLION - 1);
        x.start(1, TRILLION);
        due(x.undo(), 1 + TRILLION);
        x.start(TRILLION - 1, TRILLION);
        due(x.undo(), 3 * (TRILLION - 1));
        x.start(-1, TRILLION);
        due(x.undo(), 3 * (TRILLION - 1) + 1);
        // However far it is, a STEP further on there is one less of them, and the others are the same.
        long[][] far = {{999999999989L, 618033988749L}, {TRILLION, 999999999993L}, {-999999999989L, 7}, {3, 999999999989L},
            {123456789013L, 123456789012L}, {-500000000001L, TRILLION}};
        for (long[] number : far) {
            due(x.start(number[0], number[1]), 1);
            long count = x.undo();
            long[] places = {40, 41, 99, count / 3, count / 2, count / 7 * 5, count - 2, count - 1};
            int[] there = new int[places.length];
            for (int i = 0; i < places.length; i++) {
                there[i] = x.undoes(places[i]);
                due(x.made(number[0], number[1], count - 1 - places[i]), places[i] >= count ? -5 : there[i] == 0 ? 1 : 2);
            }
            due(x.undoes(count), -5);
            due(x.frees(40), 40);
            due(x.undo(), count - 40);
            for (int i = 0; i < places.length; i++) {
                due(x.undoes(places[i] - 40), there[i]);
            }
        }
    }

    private static void made() {
        TwoRopes x = on(25);
        int[] two = {0, 0, 0, 2, 0};
        due(x.least(2, 3, NONE), 5);
        for (int i = 0; i < 5; i++) {
            due(x.least(2, 3, i), two[i]);
        }
        due(x.least(2, 3, 5), -15);
        due(x.least(2, 3, -2), -15);
        due(x.least(0, 1, NONE), 0);
        due(x.least(9, 1, NONE), 9);
        due(x.least(10, 1, NONE), -15);
        due(x.least(10, 1, 0), -15);
        due(x.least(2, 4, 99), -16);
        due(x.least(1, -1, NONE), -16);
        // 1 by 2: under, under, on.
        due(x.least(-1, 1, NONE), 1);
        due(x.least(1, 2, NONE), 3);
        due(x.least(1, 2, 0), 1);
        due(x.least(1, 2, 2), 2);
        due(x.least(1, 0, NONE), 1);
        due(x.least(1, 0, 0), 2);
        x.start(2, 3);
        due(x.least(2, 3, NONE), 5);
        due(x.status(15), 4);
        due(x.status(16), 2);

        x = on(26);
        due(x.cheapest(1, 1, 1, 1, 1, NONE), 1);
        due(x.cheapest(1, 1, 9, 1, 1, NONE), 2);
        due(x.cheapest(1, 1, 9, 1, 1, 0), 1);
        due(x.cheapest(1, 1, 9, 1, 1, 1), 2);
        due(x.cheapest(1, 1, 9, 1, 1, 2), -15);
        // Of the same COST the fewest: over 2, or under, on 2.
        due(x.cheapest(1, 1, 2, 1, 1, NONE), 2);
        due(x.cheapest(1, 1, 2, 1, 1, 1), -15);
        due(x.cheapest(2, 3, 9, 1, 1, NONE), 6);
        due(x.cheapest(0, 1, 9, 9, 9, NONE), 0);
        due(x.cheapest(7, 1, 9, 1, 1, NONE), 63);
        due(x.cheapest(8, 1, 1, 1, 1, NONE), -15);
        due(x.cheapest(8, 1, 1, 1, 1, 0), -15);
        due(x.cheapest(8, 1, 0, 1, 1, 0), -16);
        due(x.cheapest(1, 1, 1, 10, 1, 9), -16);
        due(x.cheapest(1, 1, 1, 1, 0, 0), -16);
        due(x.cheapest(2, 2, 1, 1, 1, 0), -16);
        due(x.cheapest(1, 1, 1, 1, 1, -2), -15);
    }

    private static void joined() {
        TwoRopes x = on(27);
        x.start(3, 5);
        due(x.side(1, 2, 0), 11);
        due(x.side(1, 2, 1), 10);
        due(x.side(-3, 5, 0), 0);
        due(x.side(-3, 5, 1), 1);
        due(x.side(2, 5, 1), 1);
        due(x.side(1, 0, 0), 1);
        due(x.side(1, 0, 1), 0);
        due(x.side(0, 1, 1), 5);
        due(x.side(2, 4, 2), FAR - 5);
        due(x.side(1, 2, -1), FAR - 5);
        due(x.side(2, 4, 0), FAR - 6);
        due(x.side(TRILLION + 1, 1, 0), FAR - 6);
        due(x.side(1000000001L, 1, 0), FAR - 7);
        due(x.side(-1000000001L, 1, 0), FAR - 7);
        due(x.side(1, 1000000001L, 0), FAR - 7);
        due(x.side(1000000000L, 1, 0), 5000000003L);
        x.start(1, 1000);
        due(x.side(1, 999999999, 1), 999999999000L);
        x.start(1, 1001);
        due(x.side(1, 999999998, 1), FAR - 7);
        x.start(-TRILLION, 1);
        due(x.side(0, 1, 0), FAR - 7);
        due(x.side(1, 0, 0), FAR - 7);
        x.start(999999999, 1000000000);
        due(x.side(-999999997, 1000000000, 0), 1);
        due(x.side(-999999997, 1000000000, 1), 500000000);
        x.start(1, 0);
        due(x.side(1, 0, 1), 0);
        due(x.side(5, 7, 0), 1);
        now(x, 1, 0);

        go(28);
        due(x.over(5, 7, 0), 5);
        due(x.over(5, 7, 1), 7);
        due(x.over(1, 0, 1), 0);
        due(x.over(0, 1, 0), 0);
        x.start(3, 5);
        due(x.over(1, 2, 0), 3);
        due(x.over(1, 2, 1), 11);
        due(x.over(-3, 5, 0), 1);
        due(x.over(-3, 5, 1), 0);
        due(x.over(-1, 2, 0), -3);
        due(x.over(-1, 2, 1), 1);
        due(x.over(0, 1, 1), 1);
        due(x.over(1, 0, 1), 5);
        x.start(0, 1);
        due(x.over(1, 0, 0), 0);
        due(x.over(2, 3, 1), 1);
        due(x.over(2, 4, 2), FAR - 5);
        due(x.over(2, 4, 1), FAR - 6);
        due(x.over(1000000001L, 1, 0), FAR - 7);
        x.start(1001, 1);
        due(x.over(999999998, 1, 0), FAR - 7);
        x.start(-2, 3);
        due(x.over(-2, 3, 0), -1);
        due(x.over(-2, 3, 1), 3);

        x = on(29);
        due(x.closed(false), 2);
        due(x.closed(true), 1);
        x.start(1, 0);
        due(x.closed(false), 1);
        due(x.closed(true), 2);
        x.start(-3, 5);
        due(x.closed(false), 1);
        due(x.closed(true), 1);
        x.start(-4, 5);
        due(x.closed(false), 2);
        x.start(-5, 4);
        due(x.closed(true), 2);

        x = on(30);
        due(x.coloured(99), 99 * 99);
        due(x.coloured(2), 4);
        x.start(-12, 5);
        due(x.coloured(8), 32);
        due(x.coloured(7), 7);
        due(x.coloured(24), 288);
        due(x.coloured(1), -6);
        due(x.coloured(100), -6);
        due(x.coloured(-2), -6);
        x.start(1, 0);
        due(x.coloured(6), 6);
    }

    private static void forgotten() {
        TwoRopes x = on(31);
        fill(x, 0, 0, 3, 2, 3, 0, 4);
        due(x.forgot(0, 0), 1);
        due(x.forgot(0, 1), 2);
        due(x.forgot(0, 3), 3);
        due(x.forgot(0, 4), 3);
        due(x.forgot(0, 5), -6);
        due(x.forgot(0, 6), -5);
        due(x.forgot(0, -1), -4);
        due(x.forgot(1, -1), -3);
        x.figure(0, 0, 1);
        x.show(1, 0);
        due(x.forgot(1, -1), -2);
        due(x.forgot(9, -1), -1);
        x.row(2, 1, 41);
        due(x.forgot(2, 40), 1);
        due(x.forgot(2, 41), -6);
        due(x.forgot(2, 42), -5);
        fill(x, 3, 2, 3, 2, 3, 2, 3, 2, 3, 2, 3, 2, 3, 2, 3, 3, -1);
        due(x.forgot(3, 13), 34);
        due(x.forgot(3, 14), -7);
        due(x.forgot(3, 15), -6);
        x.start(-TRILLION, 1);
        due(x.forgot(0, 1), -7);
        due(x.forgot(0, 5), -6);
        x.start(TRILLION, 1);
        fill(x, 4, 3, 3 - (1L << 32), 1);
        due(x.forgot(4, 1), -7);
        x.start(TRILLION - 1, 1);
        due(x.forgot(4, 2), 2);

        go(32);
        due(x.may(4, 2, 0), TRILLION - 3);
        due(x.may(4, 2, 1), 1);
        due(x.may(4, 2, 2), TRILLION - 1);
        due(x.may(4, 2, 3), 1);
        x.start(0, 1);
        // 1 or -1; turned over -1 or 1; -2, 0 or 2; and one more.
        due(x.may(0, 4, 0), -1);
        due(x.may(0, 4, 2), 3);
        fill(x, 5, 0, 3, 2, 3, 2);
        // 1/2, BEYOND or -1/2.
        due(x.forgot(5, 4), 3);
        due(x.may(5, 4, 0), -1);
        due(x.may(5, 4, 1), 2);
        due(x.may(5, 4, 2), 1);
        due(x.may(5, 4, 3), 0);
        fill(x, 6, 0, 2);
        due(x.may(6, 1, 0), 1);
        due(x.may(6, 1, 1), 0);
        // The same whole, and the same again when turned over: -1/6 and -1/4.
        x.start(5, 1);
        fill(x, 6, 0, 3, 2);
        due(x.may(6, 2, 0), -1);
        due(x.may(6, 2, 1), 4);
        due(x.may(6, 2, 2), -1);
        due(x.may(6, 2, 3), 6);
        x.start(-5, 1);
        due(x.may(6, 2, 1), 6);
        due(x.may(6, 2, 3), 4);
        x.start(1, 1);
        due(x.may(6, 2, 0), -1);
        due(x.may(6, 2, 1), 2);
        due(x.may(6, 2, 2), 1);
        due(x.may(6, 2, 3), 0);
        x.start(-1, 1);
        due(x.may(6, 2, 0), 1);
        due(x.may(6, 2, 1), 2);
        due(x.may(6, 2, 2), 1);
        due(x.may(6, 2, 3), 0);
        // NUMBERS whose P by Q can't be told apart but by all their digits.
        x.start(999999999989L, 999999999988L);
        fill(x, 6, 0, 2, 3, 2);
        due(x.may(6, 3, 0), FAR - 7);
        x.start(499999999979L, 499999999978L);
        due(x.may(6, 3, 0), -499999999979L);
        due(x.may(6, 3, 1), 1);
        due(x.may(6, 3, 2), 499999999979L);
        due(x.may(6, 3, 3), 999999999957L);
        due(x.may(0, 4, 4), FAR - 5);
        due(x.may(0, 4, -1), FAR - 5);
        due(x.may(0, 6, 0), FAR - 5);
        due(x.may(0, 5, 4), FAR - 5);
        due(x.may(0, 5, 0), FAR - 6);
        due(x.may(3, 14, 0), FAR - 7);
        due(x.may(0, -1, 9), FAR - 4);
        due(x.may(7, -1, 9), FAR - 3);
        due(x.may(1, -1, 9), FAR - 2);
        due(x.may(8, -1, 9), FAR - 1);
    }

    private static void counted() {
        TwoRopes x = on(33);
        due(x.kept(0, 1), 1);
        due(x.kept(1, 1), 3);
        due(x.kept(2, 1), 7);
        due(x.kept(5, 3), 231);
        due(x.kept(9, 1000000), 19683);
        due(x.kept(10, 1), -6);
        due(x.kept(-1, 1), -6);
        due(x.kept(1, 0), -6);
        due(x.kept(1, 1000001), -6);
        due(x.kept(1, Long.MIN_VALUE), -6);
        // Only what the STEPS make is asked after, not NOW.
        x.start(5, 1);
        due(x.kept(0, 3), 1);
        due(x.kept(1, 4), 1);
        due(x.kept(1, 3), 0);
        x.start(1, 0);
        due(x.kept(1, 1), 3);

        x = on(34);
        due(x.lot(4, 0, 1), 17);
        due(x.lot(0, 0, 1), 1);
        due(x.lot(0, 1, 1), 0);
        due(x.lot(9, 9, 1), 1);
        due(x.lot(9, 8, 1), 1);
        due(x.lot(8, 9, 1), 0);
        due(x.lot(1, 1, 0), 1);
        due(x.lot(2, 1, 0), 2);
        due(x.lot(10, 0, 1), -6);
        due(x.lot(-1, 0, 1), -6);
        due(x.lot(1, 2, 4), -6);
        due(x.lot(1, -1, 0), -6);
        // Whatever is between: out of ROOM, and back.
        x.start(TRILLION, 1);
        due(x.lot(2, TRILLION, 1), 3);
    }

    private static void bags() {
        TwoRopes x = on(35);
        fill(x, 0, 3, 1, 1, 2, 1, -1, 2, 1, 0, 2, 4);
        due(x.bag(0, 1, 0, NONE), 1);
        due(x.bag(0, 1, 0, 0), 1);
        due(x.bag(0, 4, 1, NONE), 2);
        due(x.bag(0, 4, 1, 0), 1);
        due(x.bag(0, 4, 1, 1), 1);
        due(x.bag(0, 4, 1, 2), -15);
        due(x.bag(0, 4, 1, -2), -15);
        due(x.bag(0, 4, 3, NONE), 1);
        due(x.bag(0, 4, 3, 0), 2);
        due(x.bag(0, 4, 4, 9), -16);
        due(x.bag(0, 4, -1, 9), -16);
        due(x.bag(0, 0, 0, 9), -16);
        due(x.bag(0, 5, 0, 9), -16);
        due(x.bag(0, 6, 0, 9), -15);
        due(x.bag(0, Integer.MAX_VALUE, 0, 9), -15);
        due(x.bag(0, -1, 0, 9), -14);
        due(x.bag(1, -1, 0, 9), -13);
        x.figure(0, 0, 1);
        x.show(1, 0);
        due(x.bag(1, -1, 0, 9), -12);
        due(x.bag(8, -1, 0, 9), -11);
        fill(x, 2, 0, 0, 1, 0, 1, 9, 1, 2, 4);
        due(x.bag(2, 1, 0, NONE), 0);
        due(x.bag(2, 1, 0, 0), -15);
        due(x.bag(2, 2, 0, NONE), -15);
        due(x.bag(2, 3, 2, NONE), -15);
        due(x.bag(2, 4, 0, NONE), -16);
        // Longs whole: 4294967297 by 1 isn't 1 by 1; ints are cut.
        fill(x, 3, 3, 4294967297L, 1);
        due(x.bag(3, 1, 0, NONE), -15);
        fill(x, 3, 2, 4294967297L, 1);
        due(x.bag(3, 1, 0, NONE), 1);
        fill(x, 3, 3, -1, 1, TRILLION, 1);
        due(x.bag(3, 2, 0, NONE), 1);
        due(x.bag(3, 2, 0, 0), 0);
        fill(x, 3, 3, -1, 1, TRILLION + 1, 1);
        due(x.bag(3, 2, 0, NONE), -16);
        fill(x, 3, 0, -7, 1, 0, 1);
        due(x.bag(3, 2, 0, NONE), 7);
        due(x.bag(3, 2, 0, 6), 0);
        due(x.status(16), 6);
    }

    private static void draws() {
        TwoRopes x = on(36);
        due(x.frees(41), -6);
        due(x.frees(-1), -6);
        due(x.frees(40), 0);
        x.start(3, 1);
        due(x.frees(0), 0);
        due(x.frees(3), 3);
        now(x, -3, 2);
        stand(x, 2, 3, 1, 0);
        due(x.status(1), 3);
        due(x.status(2), 3);
        due(x.frees(40), 5);
        now(x, 0, 1);
        due(x.status(1), 8);

        x = on(37);
        due(x.draws(0), -6);
        due(x.draws(41), -6);
        due(x.status(3), 1);
        // SEED 1103527590 and 16838, that modulo 3 is 2; then 2524885223 (-1770082073) and 38526: 0.
        due(x.draws(1), 1);
        due(x.status(3), 1103527590);
        now(x, 1, 0);
        stand(x, 3, 0, 1, 2);
        due(x.draws(1), 1);
        due(x.status(3), -1770082073);
        stand(x, 3, 1, 0, 2);
        due(x.status(1), 2);
        due(x.status(2), 2);
        x.seed(7);
        x.start(0, 1);
        due(x.draws(40), 40);
        due(x.status(1), 42);
        // One that has no ROOM is drawn, ends it, and isn't danced.
        x.start(TRILLION, TRILLION - 1);
        x.seed(1103527590);
        due(x.draws(40), 0);
        due(x.status(3), -1770082073);
        due(x.status(1), 42);
        due(x.status(17), 0);

        x = on(38);
        due(x.seed(-5), 1);
        due(x.seed(Integer.MIN_VALUE), -5);
        due(x.status(3), Integer.MIN_VALUE);
    }

    private static void acts() {
        TwoRopes x = withKinds(39, 4);
        due(x.act(0, 0, 10), 10);
        trace(x, 10);
        due(x.act(0, 1, 10), 20);
        trace(x, 11, 10);
        due(x.act(0, 2, 10), 20 ^ 6);
        trace(x, 12, 11, 10, 10);
        due(x.act(1, 0, 10), 15);
        trace(x, 20, 10);
        due(x.act(1, 1, 10), 30);
        due(x.act(1, 2, 10), 30 ^ 11);
        trace(x, 12, 11, 20, 10, 20, 10);
        due(x.act(2, 1, 10), 96);
        trace(x, 30, 11, 20, 10);
        due(x.act(2, 2, 10), 96 ^ 12);
        due(x.act(3, 0, 10), 17);
        due(x.act(3, 1, 10), 36);
        trace(x, 40, 11, 20, 10);
        due(x.act(3, 2, 10), (36 ^ 13) - 3);
        trace(x, 41, 12, 40, 11, 20, 10, 20, 10);
        due(x.act(4, 0, 10), 14);
        due(x.act(4, 2, 10), -(28 ^ 10));
        trace(x, 50, 12, 11, 10, 10);
        due(x.act(5, 0, 10), 30);
        trace(x, 60, 10);
        due(x.act(5, 1, 10), 60);
        due(x.act(5, 2, 10), -(60 ^ 22));
        trace(x, 50, 12, 11, 60, 10, 60, 10);
        due(x.act(6, 1, 10), 24);
        trace(x, 71, 11, 10);
        due(x.act(6, 2, 10), -(24 ^ 12) ^ 5);
        trace(x, 70, 50, 12, 71, 11, 10, 10);
        due(x.act(6, 0, Integer.MAX_VALUE), Integer.MAX_VALUE + 6);
        due(x.act(2, 1, Integer.MAX_VALUE), (Integer.MAX_VALUE + 6) * 6);
        go(40);
        due(x.act(7, 0, 1), 0);
        trace(x);
        x.act(0, 0, 1);
        due(x.act(0, 3, 1), 0);
        trace(x);
        x.act(0, 0, 1);
        due(x.act(-1, 0, 1), 0);
        trace(x);
        due(x.act(0, -1, 1), 0);
        due(x.trace(20), NONE);
        for (int why = 11; why <= 17; why++) {
            due(x.status(why), 0);
        }
    }

    private static void images() {
        TwoRopes x = on(41);
        due(x.restore(), -6);
        due(x.image(), 0);
        x.figure(1, 0, 3);
        x.call(0);
        x.seed(99);
        due(x.image(), 1);
        go(42);
        x.figure(4, 0, 1);
        x.show(0, 1);
        x.show(1, 0);
        x.show(7, 1);
        fill(x, 2, 0, 5);
        x.call(1);
        x.call(1);
        x.start(5, 7);
        x.seed(3);
        x.act(0, 0, 5);
        due(fault(x, "figure 4 0 1;"), 13);
        x.show(6, 1);
        due(x.restore(), 1);
        due(x.holds(6), NONE);
        due(x.status(0), 1);
        due(x.status(1), 1);
        due(x.status(2), 3);
        due(x.status(3), 99);
        due(x.status(4), 2);
        due(x.trace(0), 20);
        due(x.status(16), 2);
        due(x.fault(), 13);
        now(x, 1, 1);
        stand(x, 0, 2, 1, 3);
        due(x.holds(0), NONE);
        due(x.holds(1), 0);
        due(x.holds(7), 100);
        due(x.holds(2), 100);
        due(x.element(2, 0), 5);
        due(x.says(1, 1), 1);
        due(x.figure(6, 2, 1), 1);
        due(x.figureOf(1, 0), 6);
        due(x.restore(), 1);
        due(x.call(1), -1);
        due(x.image(), 1);
    }

    private static void statuses() {
        TwoRopes x = on(43);
        due(x.status(-1), NONE);
        due(x.status(5), NONE);
        due(x.status(10), NONE);
        due(x.status(18), NONE);
        due(x.status(Integer.MIN_VALUE), NONE);
        x.call(0);
        x.show(0, 4);
        x.set(0, 0, 0);
        x.row(0, 0, -1);
        x.now(7);
        x.least(0, 1, 0);
        x.start(2, 2);
        x.side(2, 2, 0);
        x.lot(10, 0, 1);
        x.row(0, 0, 161);
        int[] counts = {2, 0, 1, 1, 2, 3, 1};
        for (int why = 1; why <= 7; why++) {
            due(x.status(10 + why), counts[why - 1]);
        }
        x.figure(0, 0, 1);
        x.show(0, 0);
        x.set(0, 0, 0);
        due(x.status(12), 1);
    }
}
