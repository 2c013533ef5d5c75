/** For each sentence of the document's Terms that names a boundary case a test of its own. */
public final class TermsTests extends Sentences {
    public static void main(String[] args) {
        numbers();
        figures();
        texts();
        told();
        faults();
        changes();
        turns();
        room();
        undone();
        least();
        joined();
        closed();
        forgotten();
        counted();
        bags();
        repeated();
        draws();
        shelves();
        bodies();
        traces();
        end();
    }

    // ---- 1. THE BARN ----

    private static void numbers() {
        TwoRopes x = of("A NUMBER: P by Q in least terms, Q above 0; or BEYOND all numbers: 1 by 0.");
        due(x.start(2, 3), 1);
        due(x.start(-2, 3), 1);
        due(x.start(4, 6), -6);
        due(x.start(-4, 6), -6);
        due(x.start(1, 1), 1);
        due(x.start(3, 3), -6);
        due(x.start(0, 1), 1);
        due(x.start(0, 2), -6);
        due(x.start(2, -3), -6);
        due(x.start(-2, -3), -6);
        due(x.start(1, 0), 1);
        now(x, 1, 0);
        due(x.start(-1, 0), -6);
        due(x.start(2, 0), -6);
        due(x.start(0, 0), -6);
        now(x, 1, 0);

        x = of("NOW: the NUMBER (0 by 1 at first)");
        now(x, 0, 1);

        x = of("STAND: which dancer (0 to 3) is at which corner (0 to 3; at first each at that of their own number)");
        stand(x, 0, 1, 2, 3);
        due(x.stand(4), -5);
        due(x.stand(-1), -5);
    }

    private static void figures() {
        TwoRopes x = of("FIGURES have numbers, from 0 on, 8 at most");
        due(x.call(0), -1);
        for (int m = 0; m < 8; m++) {
            due(x.figureOf(m, 0), -5);
            due(x.figure(CHANGE, 0, 1), m);
            due(x.figureOf(m, 0), CHANGE);
        }
        due(x.figure(CHANGE, 0, 1), -7);
        due(x.status(0), 8);
        due(x.call(7), 1);
        due(x.call(8), -1);
        due(x.call(-1), -1);

        x = withKinds("0 DANCE; 1 CHANGE, 4 TURN, each under DANCE; 2 UNDER, 3 MANY, each under CHANGE;"
                + " 5 BACK, 6 ROUND, each under TURN", 4);
        int[][] under = {{DANCE}, {CHANGE, DANCE}, {UNDER, CHANGE, DANCE}, {MANY, CHANGE, DANCE}, {TURN, DANCE},
            {BACK, TURN, DANCE}, {ROUND, TURN, DANCE}};
        for (int kind = DANCE; kind <= ROUND; kind++) {
            due(x.show(0, kind), 1);
            for (int other = DANCE; other <= ROUND; other++) {
                boolean is = false;
                for (int above : under[kind]) {
                    is = is || above == other;
                }
                due(x.says(0, other) == -2 ? 0 : 1, is ? 1 : 0);
            }
        }
        due(x.figure(-1, 0, 1), -1);
        due(x.figure(7, 0, 1), -1);

        x = of("a (0 to 9), a COST (1 to 9).");
        due(x.figure(MANY, 0, 1), 0);
        due(x.figure(MANY, 9, 9), 1);
        due(x.figureOf(0, 1), 0);
        due(x.figureOf(0, 2), 1);
        due(x.figureOf(1, 1), 9);
        due(x.figureOf(1, 2), 9);
        due(x.figure(MANY, -1, 1), -6);
        due(x.figure(MANY, 10, 1), -6);
        due(x.figure(MANY, 0, 0), -6);
        due(x.figure(MANY, 0, 10), -6);
        due(x.figure(MANY, Integer.MIN_VALUE, 1), -6);
        due(x.figure(MANY, 0, Integer.MAX_VALUE), -6);
        due(x.status(0), 2);
    }

    private static void texts() {
        TwoRopes x = of("ITEM, then any number of times ; and ITEM");
        due(x.figure(DANCE, 0, 1), 0);
        due(barn(x, "call 0"), 1);
        due(barn(x, "call 0;call 0"), 2);
        // As many as there may be elements: 160.
        due(barn(x, "call 0;".repeat(22) + "call 0"), 23);
        due(x.status(1), 26);
        x = of("ITEM, then any number of times ; and ITEM");
        fault(x, "", 0);
        fault(x, ";", 0);
        fault(x, "start 1 1;", 10);
        fault(x, "start 1 1;;start 1 1", 10);
        fault(x, ";start 1 1", 0);
        fault(x, "start 1 1,start 1 1", 9);
        fault(x, "start 1 1start 1 1", 9);

        x = of("figure K A C (KIND, a, COST)");
        due(barn(x, "figure 0 0 1"), 1);
        due(barn(x, "figure 6 9 9"), 1);
        due(x.figureOf(1, 0), ROUND);
        due(x.figureOf(1, 1), 9);
        due(x.figureOf(1, 2), 9);
        fault(x, "figure 7 0 1", 7);
        fault(x, "figure 0 10 1", 9);
        fault(x, "figure 0 0 0", 11);
        fault(x, "figure 0 0 10", 11);
        due(x.status(0), 2);

        x = of("call N (a FIGURE there is is danced)");
        fault(x, "call 0", 5);
        due(barn(x, "figure 1 0 1;call 0"), 2);
        now(x, 1, 1);
        fault(x, "call 1", 5);
        fault(x, "call 1;figure 1 0 1", 5);
        fault(x, "call 999", 5);
        due(barn(x, "figure 1 0 1;call 1"), 2);
        now(x, 2, 1);
        due(x.status(1), 2);

        x = of("start P Q (NUMBER P by Q, in least terms; Q 0 only with P 1)");
        due(barn(x, "start 999 998"), 1);
        now(x, 999, 998);
        due(barn(x, "start 1 0"), 1);
        now(x, 1, 0);
        due(barn(x, "start 0 1"), 1);
        now(x, 0, 1);
        fault(x, "start 0 0", 8);
        fault(x, "start 2 0", 8);
        fault(x, "start 0 2", 8);
        fault(x, "start 999 999", 10);
        fault(x, "start 3 999", 8);
        fault(x, "start -1 2", 6);

        x = of("One blank between words and NUMBERS (1 to 3 digits).");
        due(barn(x, "start 7 5"), 1);
        due(barn(x, "start 07 05"), 1);
        due(barn(x, "start 007 005"), 1);
        now(x, 7, 5);
        due(barn(x, "start 100 999"), 1);
        now(x, 100, 999);
        fault(x, "start 0007 5", 9);
        fault(x, "start 7 0015", 11);
        fault(x, "start  7 5", 6);
        fault(x, "start 7  5", 8);
        fault(x, "start7 5", 5);
        fault(x, "start 7,5", 7);
        fault(x, " start 7 5", 0);
        fault(x, "start 7 5 ", 9);
        fault(x, "start x", 6);
        fault(x, "start 7 /", 8);
        fault(x, "start 7 :", 8);
    }

    private static void told() {
        TwoRopes x = of("All is told over what there is, or nothing");
        due(x.figure(CHANGE, 0, 2), 0);
        due(x.call(0), 1);
        due(x.seed(9), 1);
        due(barn(x, "call 0;figure 4 0 5;call 1"), 3);
        now(x, -1, 2);
        stand(x, 3, 0, 1, 2);
        due(x.status(0), 2);
        due(x.status(1), 3);
        due(x.status(2), 9);
        due(x.status(3), 9);
        fault(x, "start 3 5;call 0;figure 1 0 1;call 2;call 3", 42);
        now(x, -1, 2);
        stand(x, 3, 0, 1, 2);
        due(x.status(0), 2);
        due(x.status(1), 3);
        due(x.status(2), 9);
        due(x.figureOf(2, 0), -5);
        due(x.figure(TURN, 0, 1), 2);
        due(x.figureOf(2, 0), TURN);

        x = of("(what there is no room for can't stand: its word; of start that may not be: Q)");
        for (int m = 0; m < 7; m++) {
            due(x.figure(DANCE, 0, 1), m);
        }
        fault(x, "figure 0 0 1;figure 0 0 1", 13);
        due(barn(x, "figure 0 0 1"), 1);
        fault(x, "figure 0 0 1", 0);
        fault(x, "figure 9 99 999", 0);
        fault(x, "call 0;figure 0 0 1", 7);
        fault(x, "start 12 14", 9);
        fault(x, "start 12 14;call 9", 9);
    }

    private static void faults() {
        TwoRopes x = of("The FAULT: the first place at which an element can't stand as such texts go on"
                + " (the number of elements, if it ends too early)");
        String text = "figure 1 0 2;call 0;start 7 3";
        for (int length = 0; length <= text.length(); length++) {
            x = new TwoRopes();
            if (length == 12 || length == 19 || length == 29) {
                due(barn(x, text.substring(0, length)), length / 9);
                due(x.fault(), NONE);
            } else {
                fault(x, text.substring(0, length), length);
            }
        }
        for (int place = 0; place < text.length(); place++) {
            for (char wrong : new char[] {'!', '\0', 'F', (char) 0xE9}) {
                fault(new TwoRopes(), text.substring(0, place) + wrong + text.substring(place + 1), place);
            }
        }
        // One too many, at each place.
        for (int place = 0; place <= text.length(); place++) {
            fault(new TwoRopes(), text.substring(0, place) + "!" + text.substring(place), place);
        }

        x = of("of a NUMBER that may not be the place of its first digit");
        fault(x, "figure 007 0 1", 7);
        fault(x, "figure 70 0 1", 7);
        fault(x, "figure 1 010 1", 9);
        fault(x, "figure 1 0 000", 11);
        fault(x, "figure 1 0 010;", 11);
        fault(x, "call 008", 5);
        fault(x, "start 002 004", 10);
        fault(x, "start 010 000", 10);
        // It has more digits than may be, but what the first three of them make may not be either: that is ahead.
        fault(x, "figure 1000 0 1", 7);
        fault(x, "start 100 1000", 10);
        fault(x, "start 101 1000", 13);

        x = of("Whether there is room for a word is asked when its letters stand whole:"
                + " until then the first element that is not as it is the FAULT, or the number of elements.");
        for (int m = 0; m < 8; m++) {
            due(x.figure(DANCE, 0, 1), m);
        }
        String word = "figure";
        for (int length = 0; length < word.length(); length++) {
            fault(x, "call 0;" + word.substring(0, length), 7 + length);
            fault(x, "call 0;" + word.substring(0, length) + "?", 7 + length);
        }
        fault(x, "call 0;figure", 7);
        fault(x, "call 0;figure?", 7);
        fault(x, "call 0;figure 0", 7);
    }

    // ---- 2. FIGURES ----

    private static void changes() {
        TwoRopes x = withKinds("DANCE: nothing becomes otherwise.", 9);
        due(x.start(1, 0), 1);
        due(x.call(DANCE), 1);
        now(x, 1, 0);
        due(x.start(TRILLION, 1), 1);
        due(x.call(DANCE), 2);
        now(x, TRILLION, 1);
        stand(x, 0, 1, 2, 3);

        x = withKinds("CHANGE: the NUMBER is 1 more, dancers at corners 1 and 2 change.", 9);
        due(x.call(CHANGE), 1);
        now(x, 1, 1);
        stand(x, 0, 2, 1, 3);
        due(x.start(-2, 5), 1);
        due(x.call(CHANGE), 2);
        now(x, 3, 5);
        stand(x, 0, 1, 2, 3);

        x = withKinds("UNDER: 1 less, they change.", 9);
        due(x.call(UNDER), 1);
        now(x, -1, 1);
        stand(x, 0, 2, 1, 3);
        due(x.start(3, 5), 1);
        due(x.call(UNDER), 2);
        now(x, -2, 5);
        stand(x, 0, 1, 2, 3);

        for (int a = 0; a <= 9; a++) {
            x = withKinds("MANY: a times CHANGE.", a);
            due(x.start(-1, 2), 1);
            due(x.call(MANY), 1);
            now(x, 2 * a - 1, 2);
            stand(x, 0, a % 2 == 0 ? 1 : 2, a % 2 == 0 ? 2 : 1, 3);
            due(x.status(1), 1);
            due(x.status(2), 4);
        }

        x = withKinds("(BEYOND and 1 is BEYOND.)", 3);
        due(x.start(1, 0), 1);
        for (int kind = CHANGE; kind <= MANY; kind++) {
            due(x.call(kind), kind);
            now(x, 1, 0);
        }
        // The dancers change all the same: 1, 1 and 3 times.
        stand(x, 0, 2, 1, 3);
    }

    private static void turns() {
        TwoRopes x = withKinds("TURN: the NUMBER is turned over with a minus (0 becomes BEYOND, BEYOND 0)", 3);
        due(x.call(TURN), 1);
        now(x, 1, 0);
        due(x.call(TURN), 2);
        now(x, 0, 1);
        due(x.start(2, 3), 1);
        due(x.call(TURN), 3);
        now(x, -3, 2);
        due(x.call(TURN), 4);
        now(x, 2, 3);
        due(x.start(TRILLION, 1), 1);
        due(x.call(TURN), 5);
        now(x, -1, TRILLION);

        x = withKinds("who is at a corner goes to the next one (from 3 to 0).", 3);
        due(x.call(TURN), 1);
        stand(x, 3, 0, 1, 2);
        due(x.call(TURN), 2);
        stand(x, 2, 3, 0, 1);

        x = withKinds("BACK: the same of the NUMBER; who is at a corner goes to the one ahead.", 3);
        due(x.call(BACK), 1);
        now(x, 1, 0);
        stand(x, 1, 2, 3, 0);
        due(x.call(BACK), 2);
        now(x, 0, 1);
        stand(x, 2, 3, 0, 1);
        due(x.start(2, 3), 1);
        due(x.call(BACK), 3);
        now(x, -3, 2);
        stand(x, 3, 0, 1, 2);

        int[][] round = {{0, 1, 2, 3}, {3, 0, 1, 2}, {2, 3, 0, 1}, {1, 2, 3, 0}};
        for (int a = 0; a <= 9; a++) {
            x = withKinds("ROUND: a times TURN.", a);
            due(x.start(2, 3), 1);
            due(x.call(ROUND), 1);
            now(x, a % 2 == 0 ? 2 : -3, a % 2 == 0 ? 3 : 2);
            stand(x, round[a % 4]);
            due(x.status(1), 1);
            due(x.status(2), 7);
        }
    }

    private static void room() {
        TwoRopes x = withKinds("A NUMBER whose P or Q would be above 10 to the power of 12, or below that with a minus,"
                + " there is no ROOM for.", 9);
        due(x.start(TRILLION - 1, 1), 1);
        due(x.call(CHANGE), 1);
        now(x, TRILLION, 1);
        due(x.call(CHANGE), -7);
        now(x, TRILLION, 1);
        due(x.start(1 - TRILLION, 1), 1);
        due(x.call(UNDER), 2);
        now(x, -TRILLION, 1);
        due(x.call(UNDER), -7);
        now(x, -TRILLION, 1);
        due(x.start(TRILLION - 9, 1), 1);
        due(x.call(MANY), 3);
        now(x, TRILLION, 1);
        due(x.start(TRILLION - 8, 1), 1);
        due(x.call(MANY), -7);
        now(x, TRILLION - 8, 1);
        due(x.start(1, TRILLION), 1);
        due(x.call(CHANGE), -7);
        due(x.call(UNDER), 4);
        now(x, 1 - TRILLION, TRILLION);
        due(x.call(UNDER), -7);
        due(x.call(TURN), 5);
        now(x, TRILLION, TRILLION - 1);
        stand(x, 3, 0, 1, 2);
        due(x.status(1), 5);
        due(x.status(17), 5);
        due(x.start(TRILLION + 1, 1), -6);
        due(x.start(-TRILLION - 1, 1), -6);
        due(x.start(1, TRILLION + 1), -6);

        x = withKinds("STEPS: FIGURES danced in truth; SPENT: their COSTS.", 0);
        due(x.call(ROUND), 1);
        due(x.call(DANCE), 2);
        due(x.status(1), 2);
        due(x.status(2), 8);
        fill(x, 0, 0, MANY, CHANGE);
        due(x.told(0, 2, 6), 6);
        due(x.status(1), 2);
        due(x.status(2), 8);
        due(x.dances(0, 2), 4);
        due(x.status(2), 14);
        due(x.start(TRILLION, 1), 1);
        due(x.call(CHANGE), -7);
        due(x.dances(0, 2), -6);
        due(x.status(1), 4);
        due(x.status(2), 14);

        x = withKinds("A DANCE by a ROW: FIGURES by their numbers, one after the other.", 2);
        fill(x, 0, 0, TURN, CHANGE, TURN, MANY);
        due(x.told(0, 4, 0), 2);
        due(x.told(0, 4, 1), 1);
        due(x.told(0, 3, 0), 0);
        due(x.told(0, 0, 0), 0);
        due(x.told(0, 0, 1), 1);
        due(x.told(0, 1, 0), 1);
        due(x.told(0, 1, 1), 0);
    }

    // ---- 3. WHAT COMES OF IT ----

    private static void undone() {
        TwoRopes x = of("UNDO of a NUMBER: as long as it isn't 0: below 0: over; else on.");
        due(x.undo(), 0);
        due(x.undoes(0), -5);
        due(x.start(-1, 1), 1);
        due(x.undo(), 1);
        due(x.undoes(0), OVER_STEP);
        due(x.start(1, 0), 1);
        due(x.undo(), 1);
        due(x.undoes(0), ON_STEP);
        due(x.start(1, 1), 1);
        due(x.undo(), 2);
        due(x.undoes(0), ON_STEP);
        due(x.undoes(1), OVER_STEP);
        // 3 by 2, -2 by 3, 1 by 3, -3, -2, -1, 0.
        due(x.start(3, 2), 1);
        due(x.undo(), 6);
        int[] steps = {ON_STEP, OVER_STEP, ON_STEP, OVER_STEP, OVER_STEP, OVER_STEP};
        for (int i = 0; i < steps.length; i++) {
            due(x.undoes(i), steps[i]);
        }
        due(x.start(TRILLION, 1), 1);
        due(x.undo(), 3 * TRILLION - 1);
        due(x.undoes(3 * TRILLION - 2), OVER_STEP);
        due(x.undoes(3 * TRILLION - 1), -5);
        due(x.start(-TRILLION, 1), 1);
        due(x.undo(), TRILLION);

        x = of("MADE of a NUMBER: UNDO from the last to the first, each the other way (over: under; on: on):"
                + " from 0 it makes that NUMBER.");
        due(x.made(0, 1, 0), -5);
        due(x.made(1, 0, 0), ON_STEP);
        due(x.made(1, 0, 1), -5);
        due(x.made(-1, 1, 0), UNDER_STEP);
        for (int i = 0; i < steps.length; i++) {
            due(x.made(3, 2, steps.length - 1 - i), steps[i] == OVER_STEP ? UNDER_STEP : ON_STEP);
        }
        due(x.made(3, 2, 6), -5);
        // Danced from 0 it makes that NUMBER.
        due(x.figure(DANCE, 0, 1), 0);
        due(x.figure(UNDER, 0, 1), 1);
        due(x.figure(TURN, 0, 1), 2);
        long[][] numbers = {{3, 2}, {-5, 7}, {7, 5}, {1, 9}, {1, 0}, {-4, 1}};
        for (long[] number : numbers) {
            due(x.start(number[0], number[1]), 1);
            int count = (int) x.undo();
            due(x.row(0, 0, count), 1);
            for (int i = 0; i < count; i++) {
                due(x.set(0, i, x.made(number[0], number[1], i)), 1);
            }
            due(x.start(0, 1), 1);
            due(x.told(0, count, 0), number[0]);
            due(x.told(0, count, 1), number[1]);
        }
    }

    private static void row(TwoRopes x, long p, long q, int... steps) {
        due(x.least(p, q, NONE), steps.length);
        for (int i = 0; i < steps.length; i++) {
            due(x.least(p, q, i), steps[i]);
        }
        due(x.least(p, q, steps.length), -15);
    }

    private static void cheap(TwoRopes x, long p, int y, int cost, int... steps) {
        due(x.cheapest(p, 1, 1, y, 1, NONE), cost);
        for (int i = 0; i < steps.length; i++) {
            due(x.cheapest(p, 1, 1, y, 1, i), steps[i]);
        }
        due(x.cheapest(p, 1, 1, y, 1, steps.length), -15);
    }

    private static void least() {
        TwoRopes x = of("LEAST to a NUMBER from 0: the row of the fewest of the three STEPS (9 at most), of several the first.");
        due(x.start(5, 7), 1);
        row(x, 0, 1);
        row(x, 1, 0, 2);
        row(x, 9, 1, 0, 0, 0, 0, 0, 0, 0, 0, 0);
        row(x, -9, 1, 1, 1, 1, 1, 1, 1, 1, 1, 1);
        row(x, 1, 8, 1, 1, 1, 1, 1, 1, 1, 1, 2);
        due(x.least(10, 1, NONE), -15);
        due(x.least(-10, 1, NONE), -15);
        due(x.least(1, 9, NONE), -15);
        // There are two or three of the fewest.
        row(x, 2, 3, 0, 0, 0, 2, 0);
        row(x, -2, 3, 1, 1, 1, 2, 1);
        row(x, -3, 5, 0, 0, 0, 2, 0, 0, 2);

        x = of("CHEAPEST: with COSTS x, y, z (1 to 9) of the three: of all rows of 7 STEPS at most that of the least COST,"
                + " of several the one of the fewest, then the first.");
        cheap(x, 0, 1, 0);
        cheap(x, 7, 9, 7, 0, 0, 0, 0, 0, 0, 0);
        due(x.cheapest(8, 1, 1, 1, 1, NONE), -15);
        due(x.cheapest(-8, 1, 1, 1, 1, 0), -15);
        due(x.cheapest(1, 6, 9, 9, 9, NONE), 63);
        due(x.cheapest(1, 7, 9, 9, 9, NONE), -15);
        due(x.cheapest(1, 1, 0, 1, 1, NONE), -16);
        due(x.cheapest(1, 1, 10, 1, 1, NONE), -16);
        due(x.cheapest(1, 1, 1, 0, 1, NONE), -16);
        due(x.cheapest(1, 1, 1, 10, 1, NONE), -16);
        due(x.cheapest(1, 1, 1, 1, 0, NONE), -16);
        due(x.cheapest(1, 1, 1, 1, 10, NONE), -16);
        // The least COST, though it is not of the fewest; of the same COST the fewest, though another is ahead.
        cheap(x, -1, 3, 2, 0, 2);
        cheap(x, -1, 2, 2, 1);
        cheap(x, -2, 2, 4, 1, 1);
        cheap(x, -3, 2, 6, 1, 1, 1);
        // Of the same COST and as few, the first (there is no dearer way to tell them apart).
        due(x.cheapest(2, 3, 1, 1, 1, NONE), 5);
        due(x.cheapest(2, 3, 1, 1, 1, 2), 0);
        due(x.cheapest(-3, 5, 1, 1, 2, NONE), 9);
        due(x.cheapest(-3, 5, 1, 1, 2, 2), 0);

        x = of("Rows are ordered STEP by STEP.");
        due(x.least(-2, 3, 0), UNDER_STEP);
        due(x.least(-2, 3, 2), UNDER_STEP);
        due(x.least(-2, 3, 3), ON_STEP);

        x = withKinds("SAME of two ROWS: whether NUMBER (and STAND) are alike behind them.", 2);
        fill(x, 0, 0, TURN);
        fill(x, 1, 0, BACK);
        due(x.same(0, 1, 1, false), 1);
        due(x.same(0, 1, 1, true), 0);
        due(x.same(0, 1, 0, true), 1);
        due(x.same(0, 0, 1, true), 1);
        fill(x, 1, 0, CHANGE);
        due(x.same(0, 1, 1, false), 0);
        due(x.same(0, 1, 1, true), 0);
        // Only P is alike, or only Q.
        fill(x, 0, 0, CHANGE);
        fill(x, 1, 0, TURN);
        due(x.same(0, 1, 1, false), 0);
        fill(x, 1, 0, UNDER);
        due(x.same(0, 1, 1, false), 0);
    }

    private static void both(long side, long over, long due) {
        due(side, due);
        due(over, due);
    }

    private static void joined() {
        TwoRopes x = of("SIDE by side: two NUMBERS together");
        due(x.start(1, 6), 1);
        due(x.side(1, 3, 0), 1);
        due(x.side(1, 3, 1), 2);
        due(x.side(-1, 6, 0), 0);
        due(x.side(-1, 6, 1), 1);
        due(x.side(-1, 3, 0), -1);
        due(x.side(-1, 3, 1), 6);

        x = of("OVER one another: turned over, together, and turned over again (without any minus)");
        due(x.start(1, 6), 1);
        due(x.over(1, 3, 0), 1);
        due(x.over(1, 3, 1), 9);
        due(x.over(-1, 6, 0), 1);
        due(x.over(-1, 6, 1), 0);
        due(x.over(-1, 3, 0), 1);
        due(x.over(-1, 3, 1), 3);
        due(x.over(-1, 9, 0), -1);
        due(x.over(-1, 9, 1), 3);
        due(x.over(0, 1, 0), 0);
        due(x.over(0, 1, 1), 1);
        due(x.start(0, 1), 1);
        due(x.over(0, 1, 0), 0);
        due(x.over(0, 1, 1), 1);
        due(x.over(1, 0, 0), 0);
        due(x.over(1, 0, 1), 1);

        x = of("BEYOND with whatever is BEYOND side by side");
        due(x.start(1, 0), 1);
        due(x.side(-3, 5, 0), 1);
        due(x.side(-3, 5, 1), 0);
        due(x.side(1, 0, 0), 1);
        due(x.side(1, 0, 1), 0);
        due(x.side(0, 1, 0), 1);
        due(x.side(0, 1, 1), 0);
        due(x.start(-3, 5), 1);
        due(x.side(1, 0, 0), 1);
        due(x.side(1, 0, 1), 0);

        x = of("side by side with nought it is itself");
        due(x.start(-3, 5), 1);
        due(x.side(0, 1, 0), -3);
        due(x.side(0, 1, 1), 5);
        // Over one another BEYOND is as nought side by side.
        due(x.over(1, 0, 0), -3);
        due(x.over(1, 0, 1), 5);
        due(x.start(0, 1), 1);
        due(x.side(-3, 5, 0), -3);
        due(x.side(-3, 5, 1), 5);
        both(x.side(0, 1, 0), x.over(0, 1, 0), 0);
        due(x.start(1, 0), 1);
        due(x.over(-3, 5, 0), -3);
        due(x.over(-3, 5, 1), 5);
        both(x.side(1, 0, 1), x.over(1, 0, 1), 0);
    }

    private static void closed() {
        TwoRopes x = of("CLOSED: of P by Q: 2 ropes, if P is even, else 1 (the other way: by Q).");
        long[][] numbers = {{0, 1}, {1, 0}, {1, 1}, {-1, 1}, {-2, 1}, {2, 3}, {-3, 2}, {TRILLION, 1}, {-1, TRILLION}};
        for (long[] number : numbers) {
            due(x.start(number[0], number[1]), 1);
            due(x.closed(false), number[0] % 2 == 0 ? 2 : 1);
            due(x.closed(true), number[1] % 2 == 0 ? 2 : 1);
        }

        x = of("COLOURED by n colours: n times the greatest number that divides P and n (P 0: n).");
        due(x.coloured(2), 4);
        due(x.coloured(99), 9801);
        due(x.start(-99, 2), 1);
        due(x.coloured(99), 9801);
        due(x.coloured(98), 98);
        due(x.coloured(66), 66 * 33);
        due(x.coloured(2), 2);
        due(x.start(1, 0), 1);
        due(x.coloured(99), 99);
        due(x.start(TRILLION, 3), 1);
        due(x.coloured(64), 64 * 64);
        due(x.coloured(96), 96 * 32);
    }

    private static void forgotten() {
        TwoRopes x = of("FORGOTTEN: a ROW of STEPS 0 to 2 and 3 (over or under, one doesn't know which; 7 of these at most)");
        fill(x, 0, 0, 0, 2, 1, 3, 4);
        due(x.forgot(0, 4), 2);
        due(x.forgot(0, 5), -6);
        fill(x, 0, 0, -1);
        due(x.forgot(0, 1), -6);
        due(x.forgot(0, 0), 1);
        fill(x, 0, 0, 3, 3, 3, 3, 3, 3, 3, 3);
        due(x.forgot(0, 7), 8);
        due(x.forgot(0, 8), -7);
        due(x.may(0, 7, 0), -7);
        due(x.may(0, 7, 2), 7);
        due(x.may(0, 8, 2), FAR - 7);

        x = of("how many unlike NUMBERS it may be (from NOW)");
        fill(x, 0, 0, 3, 3, 2, 3);
        due(x.forgot(0, 1), 2);
        due(x.forgot(0, 2), 3);
        // -2, 0, 2; 1/2, BEYOND, -1/2; -1/2, 3/2, BEYOND, -3/2, 1/2.
        due(x.forgot(0, 3), 3);
        due(x.forgot(0, 4), 5);
        due(x.start(1, 0), 1);
        due(x.forgot(0, 2), 1);
        due(x.forgot(0, 4), 2);

        x = of("the least P by Q of them, the greatest (BEYOND is greater than all).");
        fill(x, 0, 0, 3, 3, 2, 3);
        due(x.may(0, 0, 0), 0);
        due(x.may(0, 0, 3), 1);
        due(x.may(0, 3, 0), -1);
        due(x.may(0, 3, 1), 2);
        due(x.may(0, 3, 2), 1);
        due(x.may(0, 3, 3), 0);
        due(x.may(0, 4, 0), -3);
        due(x.may(0, 4, 1), 2);
        due(x.may(0, 4, 2), 1);
        due(x.may(0, 4, 3), 0);
        due(x.start(1, 0), 1);
        due(x.may(0, 1, 0), 1);
        due(x.may(0, 1, 1), 0);
        // As fractions, not by their P: 1 by 3 is less than 1 by 1, -1 by 3 more than -1 by 1.
        due(x.start(-2, 1), 1);
        fill(x, 0, 0, 3, 2);
        due(x.may(0, 2, 1), 3);
        due(x.may(0, 2, 3), 1);
        due(x.start(2, 1), 1);
        due(x.may(0, 2, 1), 1);
        due(x.may(0, 2, 3), 3);
        // The same whole: -1 by 6 and -1 by 4; and turned over the same again, on either side of 0.
        due(x.start(5, 1), 1);
        due(x.may(0, 2, 1), 4);
        due(x.may(0, 2, 3), 6);
        due(x.start(-5, 1), 1);
        due(x.may(0, 2, 1), 6);
        due(x.may(0, 2, 3), 4);
        fill(x, 0, 0, 3, 2, 0, 2, 1, 2);
        due(x.start(3, 7), 1);
        alike(x, 6);
        due(x.start(-40, 9), 1);
        alike(x, 6);
        // As near to one another as 1 by 10 to the power of 24.
        fill(x, 0, 0, 2, 3, 2);
        due(x.start(499999999979L, 499999999978L), 1);
        due(x.may(0, 3, 0), -499999999979L);
        due(x.may(0, 3, 1), 1);
        due(x.may(0, 3, 2), 499999999979L);
        due(x.may(0, 3, 3), 999999999957L);
    }

    /** The least and the greatest of two, held against what they are when over is known. */
    private static void alike(TwoRopes x, int n) {
        long[] found = {x.may(0, n, 0), x.may(0, n, 1), x.may(0, n, 2), x.may(0, n, 3)};
        long[][] known = new long[2][];
        for (int step = OVER_STEP; step <= UNDER_STEP; step++) {
            due(x.set(0, 0, step), 1);
            due(x.forgot(0, n), 1);
            known[step] = new long[] {x.may(0, n, 0), x.may(0, n, 1)};
        }
        due(x.set(0, 0, EITHER_STEP), 1);
        boolean first = known[0][0] * known[1][1] < known[1][0] * known[0][1];
        due(found[0], known[first ? 0 : 1][0]);
        due(found[1], known[first ? 0 : 1][1]);
        due(found[2], known[first ? 1 : 0][0]);
        due(found[3], known[first ? 1 : 0][1]);
    }

    private static void counted() {
        TwoRopes x = of("KEPT: of all rows of n (0 to 9) of the three STEPS from NOW how many never make P, nor Q, above b,"
                + " nor P below b with a minus.");
        due(x.kept(0, 1), 1);
        due(x.kept(9, 1000000), 19683);
        // No row of 9 makes more than 17; six of them make that.
        due(x.kept(9, 17), 19683);
        due(x.kept(9, 16), 19677);
        due(x.kept(9, 1), 6611);
        due(x.kept(10, 1), -6);
        due(x.kept(-1, 1), -6);
        due(x.start(1, 1), 1);
        due(x.kept(1, 2), 3);
        due(x.kept(1, 1), 2);
        due(x.start(-1, 1), 1);
        due(x.kept(1, 2), 3);
        due(x.kept(1, 1), 2);
        due(x.start(2, 1), 1);
        due(x.kept(1, 3), 3);
        due(x.kept(1, 2), 2);
        // On makes Q 2; under makes 1 by 1.
        due(x.kept(1, 1), 1);
        // What is too wide between is not kept, though it comes back.
        due(x.start(1, 1), 1);
        due(x.kept(2, 1), 5);

        x = of("LOT: how many of these rows end at a told NUMBER (whatever is between).");
        due(x.lot(0, 0, 1), 1);
        due(x.lot(0, 1, 1), 0);
        due(x.lot(9, 9, 1), 1);
        due(x.lot(9, 10, 1), 0);
        due(x.lot(10, 9, 1), -6);
        due(x.lot(-1, 9, 1), -6);
        due(x.lot(1, 1, 0), 1);
        due(x.start(TRILLION, 1), 1);
        due(x.lot(1, TRILLION, 1), 0);
        due(x.lot(2, TRILLION, 1), 3);
        due(x.lot(1, TRILLION - 1, 1), 1);
        due(x.start(1, 0), 1);
        due(x.lot(9, 1, 0) > 512 ? 1 : 0, 1);
        due(x.lot(1, 1, 0), 2);
    }

    private static void bags() {
        TwoRopes x = of("BAG: 1 to 4 NUMBERS told");
        fill(x, 0, 0, 1, 1, 2, 1, 3, 1, 4, 1, 5, 1);
        due(x.bag(0, 0, 0, NONE), -16);
        for (int n = 1; n <= 4; n++) {
            due(x.bag(0, n, n - 1, NONE), n);
        }
        due(x.bag(0, 5, 0, NONE), -16);

        x = of("the row of the fewest STEPS (7 at most) behind which the i-th of them is 0, and none of the others is;"
                + " of several the first.");
        fill(x, 0, 0, 7, 1, 8, 1, -8, 1, 0, 1);
        due(x.bag(0, 4, 0, NONE), 7);
        for (int i = 0; i < 7; i++) {
            due(x.bag(0, 4, 0, i), UNDER_STEP);
        }
        due(x.bag(0, 4, 0, 7), -15);
        due(x.bag(0, 4, 1, NONE), -15);
        due(x.bag(0, 4, 1, 0), -15);
        due(x.bag(0, 4, 2, NONE), -15);
        due(x.bag(0, 4, 3, NONE), 0);
        due(x.bag(0, 4, 3, 0), -15);
        fill(x, 0, 0, 0, 1, 1, 0, 0, 1);
        due(x.bag(0, 2, 0, NONE), 0);
        due(x.bag(0, 2, 1, NONE), 1);
        due(x.bag(0, 2, 1, 0), ON_STEP);
        // Told twice it is never alone.
        due(x.bag(0, 3, 0, NONE), -15);
        due(x.bag(0, 3, 2, NONE), -15);
        due(x.bag(0, 3, 1, NONE), 1);
        // Two, three of the fewest.
        fill(x, 0, 0, 2, 3, -3, 5);
        int[] first = {1, 2, 1, 1, 1};
        for (int i = 0; i < first.length; i++) {
            due(x.bag(0, 1, 0, i), first[i]);
        }
        int[] second = {0, 2, 0, 0, 2, 1, 1};
        due(x.bag(0, 2, 1, NONE), 7);
        for (int i = 0; i < second.length; i++) {
            due(x.bag(0, 2, 1, i), second[i]);
        }
    }

    private static void repeated() {
        TwoRopes x = withKinds("REPEATED: a DANCE of n FIGURES, t times (0 to 10,000), one behind the other.", 2);
        fill(x, 0, 0, CHANGE, TURN);
        due(x.repeated(0, 2, 0, 0), 0);
        due(x.repeated(0, 2, 0, 1), 1);
        due(x.repeated(0, 2, 0, 2), 0);
        due(x.repeated(0, 2, 1, 0), -1);
        due(x.repeated(0, 2, 10000, 0), -1);
        due(x.repeated(0, 2, 10000, 1), 1);
        due(x.repeated(0, 1, 10000, 0), 10000);
        due(x.repeated(0, 0, 10000, 0), 0);
        due(x.repeated(0, 2, 10001, 0), FAR - 6);
        due(x.repeated(0, 2, -1, 0), FAR - 6);
        due(x.repeated(0, 2, Integer.MIN_VALUE, 0), FAR - 6);
        due(x.repeated(0, 2, Integer.MAX_VALUE, 0), FAR - 6);
    }

    private static void draws() {
        TwoRopes x = of("(one that has no ROOM is drawn, but not danced, and ends it)");
        due(x.seed(1103527590), 1);
        // Draws 0: over.
        due(x.start(TRILLION, 1), 1);
        due(x.draws(40), 0);
        due(x.status(1), 0);
        due(x.status(2), 0);
        due(x.status(3), -1770082073);
        due(x.status(17), 0);
        now(x, TRILLION, 1);
        stand(x, 0, 1, 2, 3);
        // Over once, then no more (SEED 1103510752 draws 0 and then 0).
        due(x.start(TRILLION - 1, 1), 1);
        int seed = twice();
        due(x.seed(seed), -1770082073);
        due(x.draws(2), 1);
        due(x.status(1), 1);
        due(x.status(2), 1);
        due(x.status(3), after(after(seed)));
        now(x, TRILLION, 1);
        stand(x, 0, 2, 1, 3);

        x = of("BY DRAWS: n STEPS, each a DRAW below 3");
        due(x.draws(40), 40);
        due(x.status(1), 40);
        int drawn = 1;
        for (int i = 0; i < 40; i++) {
            drawn = after(drawn);
        }
        due(x.status(3), drawn);

        x = of("A DRAW below n: SEED (1 at first) becomes SEED times 1103515245, and 12345 (an int, wrapping);"
                + " its upper 16 bits, no sign, modulo n.");
        due(x.status(3), 1);
        due(x.draws(1), 1);
        due(x.status(3), 1103527590);
        // 16838 modulo 3 is 2: on.
        now(x, 1, 0);
        due(x.draws(1), 1);
        due(x.status(3), -1770082073);
        // 38526 modulo 3 is 0: over, so that the dancers change; with a sign it would be on.
        stand(x, 3, 1, 0, 2);
        // Whatever SEED is, the STEP is that of its DRAW.
        int[] seeds = {0, -1, 7, Integer.MAX_VALUE, Integer.MIN_VALUE, 123456789, -987654321};
        for (int seedNow : seeds) {
            x = new TwoRopes();
            due(x.seed(seedNow), 1);
            due(x.draws(1), 1);
            int next = after(seedNow);
            due(x.status(3), next);
            int step = (next >>> 16) % 3;
            now(x, step == OVER_STEP ? 1 : step == UNDER_STEP ? -1 : 1, step == ON_STEP ? 0 : 1);
            due(x.stand(0), step == ON_STEP ? 3 : 0);
        }
    }

    private static int after(int seed) {
        return seed * 1103515245 + 12345;
    }

    /** The first SEED above 0 by which over is drawn twice. */
    private static int twice() {
        int seed = 1;
        while ((after(seed) >>> 16) % 3 != 0 || (after(after(seed)) >>> 16) % 3 != 0) {
            seed++;
        }
        return seed;
    }

    private static void shelves() {
        TwoRopes x = of("SHELVES 0 to 7 hold NOTHING (at first), a ROW, or a FIGURE.");
        due(x.figure(DANCE, 0, 1), 0);
        for (int s = 0; s < 8; s++) {
            due(x.holds(s), NONE);
            due(x.element(s, 0), 0);
            due(x.set(s, 0, 1), -3);
            due(x.row(s, s % 4, 1), 1);
            due(x.holds(s), 100 + s % 4);
            due(x.show(s, 0), 1);
            due(x.holds(s), 0);
        }
        due(x.row(8, 0, 1), -1);
        due(x.row(-1, 0, 1), -1);
        due(x.show(8, 0), -1);
        due(x.holds(8), NONE);

        x = of("A ROW has a SORT (0 bytes, 1 shorts, 2 ints, 3 longs) and 0 to 160 elements, 0 at first");
        due(x.row(0, 0, 0), 1);
        due(x.set(0, 0, 1), -5);
        due(x.row(0, 3, 160), 1);
        for (int i = 0; i < 160; i++) {
            due(x.element(0, i), 0);
        }
        due(x.set(0, 159, 1), 1);
        due(x.set(0, 160, 1), -5);
        due(x.row(0, 0, 161), -7);
        due(x.row(0, -1, 0), -6);
        due(x.row(0, 4, 0), -6);
        due(x.element(0, 159), 1);
        // A new ROW in the place of another begins with 0 again.
        due(x.row(0, 3, 160), 1);
        due(x.element(0, 159), 0);

        x = of("what is put in keeps its lowest bits");
        long[][] kept = {{127, -128, -1, 0, -1}, {127, 128, 32767, -32768, -1}, {127, 128, 32767, 32768, Integer.MAX_VALUE}};
        long[] put = {127, 128, 32767, 32768, Integer.MAX_VALUE};
        for (int sort = 0; sort < 4; sort++) {
            due(x.row(0, sort, 1), 1);
            for (int i = 0; i < put.length; i++) {
                due(x.set(0, 0, put[i]), 1);
                due(x.element(0, 0), sort == 3 ? put[i] : kept[sort][i]);
            }
            due(x.set(0, 0, 1L << 31), 1);
            due(x.element(0, 0), sort == 3 ? 1L << 31 : sort == 2 ? Integer.MIN_VALUE : 0);
            due(x.set(0, 0, 1L << 32), 1);
            due(x.element(0, 0), sort == 3 ? 1L << 32 : 0);
            due(x.set(0, 0, Long.MIN_VALUE), 1);
            due(x.element(0, 0), sort == 3 ? Long.MIN_VALUE : 0);
            due(x.set(0, 0, -1), 1);
            due(x.element(0, 0), -1);
        }

        x = of("(As ints: of longs the lowest 32 bits.)");
        due(x.figure(CHANGE, 0, 1), 0);
        fill(x, 0, 3, 1L << 32, Long.MIN_VALUE, 1L << 31, (1L << 32) - 1);
        due(x.judge(0, 2), NONE);
        due(x.judge(0, 3), 2);
        due(x.told(0, 2, 0), 2);
        due(x.repeated(0, 2, 2, 0), 4);
        due(x.dances(0, 2), 2);
        due(x.set(0, 0, (1L << 32) + 3), 1);
        due(x.forgot(0, 1), 2);
        due(x.forgot(0, 3), -6);
        fill(x, 1, 3, 's' - (1L << 32), 't' + (1L << 40), 'a', 'r', 't', ' ', '9' + (1L << 33), ' ', '1');
        due(x.barn(1), 1);
        now(x, 9, 1);
    }

    // ---- ACTS ----

    private static void bodies() {
        int top = Integer.MAX_VALUE;
        TwoRopes x = withKinds("10 calls: x + m. 11 steps: calls(x) * 2. 12 knots: steps(x) ^ calls(x - k).", 4);
        due(x.figure(DANCE, 9, 1), 7);
        due(x.act(7, 0, 10), 17);
        trace(x, 10);
        due(x.act(7, 1, 10), 34);
        trace(x, 11, 10);
        due(x.act(7, 2, 10), 34 ^ 8);
        trace(x, 12, 11, 10, 10);
        due(x.act(7, 0, top), top + 7);
        due(x.act(7, 1, top), (top + 7) * 2);

        x = withKinds("CHANGE: 20 calls: super.calls(x) + k.", 4);
        due(x.act(CHANGE, 0, 10), 15);
        trace(x, 20, 10);
        due(x.act(CHANGE, 1, 10), 30);
        trace(x, 11, 20, 10);
        due(x.act(CHANGE, 2, 10), 30 ^ 11);
        trace(x, 12, 11, 20, 10, 20, 10);
        due(x.act(CHANGE, 0, top), top + 5);

        x = withKinds("UNDER: 30 steps: super.steps(x) * 3.", 4);
        due(x.act(UNDER, 0, 10), 16);
        trace(x, 20, 10);
        due(x.act(UNDER, 1, 10), 96);
        trace(x, 30, 11, 20, 10);
        due(x.act(UNDER, 2, 10), 96 ^ 12);
        trace(x, 12, 30, 11, 20, 10, 20, 10);
        due(x.act(UNDER, 1, top), (top + 6) * 6);

        x = withKinds("MANY: 40 steps: super.steps(x + 1). 41 knots: super.knots(x) - m.", 4);
        due(x.act(MANY, 0, 10), 17);
        trace(x, 20, 10);
        due(x.act(MANY, 1, 10), 36);
        trace(x, 40, 11, 20, 10);
        due(x.act(MANY, 2, 10), (36 ^ 13) - 3);
        trace(x, 41, 12, 40, 11, 20, 10, 20, 10);
        due(x.act(MANY, 1, top), (top + 8) * 2);

        x = withKinds("TURN: 50 knots: -super.knots(x).", 4);
        due(x.act(TURN, 0, 10), 14);
        trace(x, 10);
        due(x.act(TURN, 1, 10), 28);
        trace(x, 11, 10);
        due(x.act(TURN, 2, 10), -(28 ^ 10));
        trace(x, 50, 12, 11, 10, 10);

        x = withKinds("BACK: 60 calls: super.calls(x) * 2.", 4);
        due(x.act(BACK, 0, 10), 30);
        trace(x, 60, 10);
        due(x.act(BACK, 1, 10), 60);
        trace(x, 11, 60, 10);
        due(x.act(BACK, 2, 10), -(60 ^ 22));
        trace(x, 50, 12, 11, 60, 10, 60, 10);
        due(x.act(BACK, 0, top), (top + 5) * 2);

        x = withKinds("ROUND: 70 knots: super.knots(x) ^ 5. 71 steps: super.steps(x - k).", 4);
        due(x.act(ROUND, 0, 10), 16);
        trace(x, 10);
        due(x.act(ROUND, 1, 10), 24);
        trace(x, 71, 11, 10);
        due(x.act(ROUND, 2, 10), -(24 ^ 12) ^ 5);
        trace(x, 70, 50, 12, 71, 11, 10, 10);
        due(x.act(ROUND, 1, Integer.MIN_VALUE), (Integer.MIN_VALUE + 2) * 2);

        x = withKinds("calls(..) and so on: the body of the FIGURE's KIND, or of the next KIND above that has one;"
                + " super: from the KIND above the body's on.", 0);
        int[][][] all = {{{10}, {11, 10}, {12, 11, 10, 10}}, {{20, 10}, {11, 20, 10}, {12, 11, 20, 10, 20, 10}},
            {{20, 10}, {30, 11, 20, 10}, {12, 30, 11, 20, 10, 20, 10}},
            {{20, 10}, {40, 11, 20, 10}, {41, 12, 40, 11, 20, 10, 20, 10}}, {{10}, {11, 10}, {50, 12, 11, 10, 10}},
            {{60, 10}, {11, 60, 10}, {50, 12, 11, 60, 10, 60, 10}}, {{10}, {71, 11, 10}, {70, 50, 12, 71, 11, 10, 10}}};
        for (int kind = DANCE; kind <= ROUND; kind++) {
            for (int act = 0; act < 3; act++) {
                x.act(kind, act, 1000);
                trace(x, all[kind][act]);
            }
        }

        x = withKinds("ACTS of FIGURES, with x (wrapping): 0 calls, 1 steps, 2 knots; m the number, k its a.", 0);
        due(x.act(DANCE, -1, 10), 0);
        due(x.act(DANCE, 3, 10), 0);
        due(x.act(DANCE, 2, 10), 20 ^ 10);
        due(x.act(DANCE, 1, 1 << 30), Integer.MIN_VALUE);
        due(x.act(DANCE, 1, Integer.MIN_VALUE), 0);
    }

    private static void traces() {
        TwoRopes x = withKinds("THE TRACE: the numbers of the bodies that ran in the latest act(),"
                + " in the order in which they began; the first 20 are kept.", 1);
        trace(x);
        due(x.trace(0), NONE);
        x.act(MANY, 2, 5);
        // No act has more than these eight.
        trace(x, 41, 12, 40, 11, 20, 10, 20, 10);
        due(x.trace(19), NONE);
        due(x.trace(20), NONE);
        x.act(DANCE, 0, 5);
        trace(x, 10);
        due(x.trace(1), NONE);
        due(x.trace(7), NONE);
        due(x.act(7, 0, 5), 0);
        trace(x);
    }
}
