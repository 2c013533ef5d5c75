/** For each sentence of the promises that names an edge, but no refusal, a test of its own. */
public final class EdgeTests extends Sentences {
    public static void main(String[] args) {
        made();
        rows();
        says();
        barns();
        faults();
        danced();
        judged();
        repeated();
        straight();
        undone();
        freed();
        drawn();
        imaged();
        restored();
        often();
        forgotten();
        counted();
        end();
    }

    private static void made() {
        TwoRopes x = of("No FIGURES; NOW 0 by 1.");
        due(x.status(0), 0);
        now(x, 0, 1);
        for (int what = 11; what <= 17; what++) {
            due(x.status(what), 0);
        }
        // What one object does is nothing to another.
        x.figure(CHANGE, 0, 1);
        x.call(0);
        x.row(0, 0, 3);
        x.seed(5);
        x.image();
        x.act(0, 0, 1);
        x.row(9, 0, 0);
        TwoRopes other = new TwoRopes();
        due(other.status(0), 0);
        now(other, 0, 1);
        stand(other, 0, 1, 2, 3);
        due(other.holds(0), NONE);
        for (int what = 1; what <= 4; what++) {
            due(other.status(what), what == 3 ? 1 : 0);
        }
        due(other.status(11), 0);
        due(other.fault(), NONE);
        due(other.trace(0), NONE);
        due(other.restore(), -6);

        x = of("An object is used for at most 512 calls after it has been made");
        due(x.figure(CHANGE, 0, 1), 0);
        due(x.row(0, 0, 160), 1);
        for (int i = 2; i < 511; i++) {
            due(x.dances(0, 160), 160 * (i - 1));
        }
        due(x.now(0), 160 * 509);

        x = of("An object is used for at most 512 calls after it has been made");
        due(x.image(), 0);
        for (int i = 1; i < 511; i += 2) {
            due(x.figure(CHANGE, 0, 1), 0);
            due(x.restore(), 0);
        }
        due(x.kept(9, 1000000), 19683);
    }

    private static void rows() {
        TwoRopes x = of("SHELF s holds a new ROW: 1.");
        fill(x, 0, 3, 5, 6);
        due(x.row(0, 3, 2), 1);
        due(x.element(0, 0), 0);
        due(x.row(0, 0, 1), 1);
        due(x.holds(0), 100);
        due(x.set(0, 1, 1), -5);
        due(x.figure(DANCE, 0, 1), 0);
        due(x.show(0, 0), 1);
        due(x.row(0, 1, 1), 1);
        due(x.holds(0), 101);
        due(x.says(0, 0), -2);

        x = of("come to elements j, j + 1, .. of that in q (as they were ahead)");
        fill(x, 0, 2, 1, 2, 3, 4, 5);
        due(x.copy(0, 0, 0, 2, 3), 1);
        long[] on = {1, 2, 1, 2, 3};
        for (int i = 0; i < 5; i++) {
            due(x.element(0, i), on[i]);
        }
        fill(x, 0, 2, 1, 2, 3, 4, 5);
        due(x.copy(0, 0, 2, 0, 3), 1);
        long[] back = {3, 4, 5, 4, 5};
        for (int i = 0; i < 5; i++) {
            due(x.element(0, i), back[i]);
        }
        due(x.copy(0, 0, 0, 0, 5), 1);
        due(x.copy(0, 0, 5, 5, 0), 1);
        due(x.element(0, 0), 3);
        due(x.row(1, 3, 160), 1);
        due(x.row(2, 3, 160), 1);
        due(x.set(1, 159, Long.MIN_VALUE), 1);
        due(x.copy(1, 2, 0, 0, 160), 1);
        due(x.element(2, 159), Long.MIN_VALUE);
        due(x.element(2, 158), 0);
        due(x.copy(1, 2, 159, 0, 1), 1);
        due(x.element(2, 0), Long.MIN_VALUE);
        due(x.element(2, 1), 0);

        x = of("SHELF s holds a FIGURE, or NOTHING (figure NONE): 1, 0.");
        due(x.figure(DANCE, 0, 1), 0);
        due(x.show(7, 0), 1);
        due(x.holds(7), 0);
        due(x.show(7, NONE), 0);
        due(x.holds(7), NONE);
        due(x.show(7, NONE), 0);
        fill(x, 7, 0, 4);
        due(x.show(7, 0), 1);
        due(x.element(7, 0), 0);
        due(x.show(7, NONE), 0);
        due(x.element(7, 0), 0);
        due(x.set(7, 0, 1), -3);
    }

    private static void says() {
        TwoRopes x = of("DANCE its COST");
        for (int kind = DANCE; kind <= ROUND; kind++) {
            due(x.figure(kind, 0, kind + 3), kind);
            due(x.show(0, kind), 1);
            due(x.says(0, DANCE), kind + 3);
        }

        x = withKinds("CHANGE, UNDER, MANY by how much the NUMBER is more by it (below 0: 10 and that)", 0);
        due(x.figure(MANY, 9, 1), 7);
        due(x.show(0, UNDER), 1);
        due(x.says(0, UNDER), 9);
        due(x.says(0, CHANGE), 9);
        due(x.says(0, DANCE), 3);
        due(x.show(0, CHANGE), 1);
        due(x.says(0, CHANGE), 1);
        due(x.show(0, MANY), 1);
        due(x.says(0, MANY), 0);
        due(x.says(0, CHANGE), 0);
        due(x.show(0, 7), 1);
        due(x.says(0, MANY), 9);
        due(x.says(0, CHANGE), 9);

        x = withKinds("TURN, BACK, ROUND by how many corners one at corner 0 goes on (modulo 4).", 0);
        due(x.show(0, TURN), 1);
        due(x.says(0, TURN), 1);
        due(x.show(0, BACK), 1);
        due(x.says(0, TURN), 3);
        due(x.says(0, BACK), 3);
        for (int a = 0; a <= 9; a++) {
            x = withKinds("TURN, BACK, ROUND by how many corners one at corner 0 goes on (modulo 4).", a);
            due(x.show(0, ROUND), 1);
            due(x.says(0, ROUND), a % 4);
            due(x.says(0, TURN), a % 4);
        }
    }

    private static void barns() {
        TwoRopes x = of("A BARN by the ROW in SHELF s: how many ITEMS.");
        due(barn(x, "start 5 7"), 1);
        now(x, 5, 7);
        stand(x, 0, 1, 2, 3);
        // Eight FIGURES of one text; nothing of it is a STEP.
        due(barn(x, "figure 1 0 1" + ";figure 4 0 1".repeat(7)), 8);
        due(x.status(0), 8);
        due(x.status(1), 0);
        due(x.status(2), 0);
        due(barn(x, "call 7;call 0;call 7"), 3);
        due(x.status(1), 3);
        due(x.status(2), 3);
        now(x, 5, 2);
        due(barn(x, "start 0 1;call 7;call 0"), 3);
        now(x, 1, 0);

        x = of("A BARN by the ROW in SHELF s: how many ITEMS.");
        fault(x, "figure 1 0 1" + ";figure 4 0 1".repeat(8), 104);
        due(x.status(0), 0);
    }

    private static void faults() {
        TwoRopes x = of("The FAULT of the latest barn() that came to a ROW; NONE: there was none, or none yet.");
        due(x.fault(), NONE);
        due(x.barn(0), -3);
        due(x.barn(8), -1);
        due(x.fault(), NONE);
        fault(x, "call 3", 5);
        due(x.figure(DANCE, 0, 1), 0);
        due(x.show(0, 0), 1);
        due(x.barn(0), -2);
        due(x.barn(1), -3);
        due(x.barn(-1), -1);
        due(x.fault(), 5);
        due(x.row(7, 0, 0), 1);
        due(x.fault(), 5);
        due(barn(x, "call 0"), 1);
        due(x.fault(), NONE);
        due(x.row(0, 3, 0), 1);
        due(x.barn(0), -6);
        due(x.fault(), 0);
        // The last place there is, and the end of the longest ROW.
        fault(x, "call 0;".repeat(22) + "call 1", 159);
        fault(x, "call 0;".repeat(22) + "call ?", 159);
        fault(x, "call 0;".repeat(22) + "call  ", 159);
        fault(x, "call 0;".repeat(22) + "call00", 158);
        fault(x, "call 0;".repeat(21) + "figure 0 0 1;", 160);
        due(x.status(1), 1);
    }

    private static void danced() {
        TwoRopes x = withKinds("A FIGURE is danced in truth: STEPS.", 0);
        // MANY and ROUND 0 times are STEPS all the same.
        due(x.call(MANY), 1);
        due(x.call(ROUND), 2);
        due(x.call(DANCE), 3);
        due(x.status(2), 4 + 7 + 1);
        now(x, 0, 1);
        stand(x, 0, 1, 2, 3);

        x = withKinds("By it, from NOW: P (what 0), Q (1), the dancer at corner 0 to 3 (2 to 5), its COST (6).", 3);
        fill(x, 0, 0, CHANGE, TURN, BACK, ROUND, MANY);
        due(x.start(1, 3), 1);
        // 4 by 3, -3 by 4, 4 by 3, -3 by 4, 9 by 4.
        due(x.told(0, 5, 0), 9);
        due(x.told(0, 5, 1), 4);
        // 0 2 1 3; 3 0 2 1; 0 2 1 3; 2 1 3 0; 2 3 1 0.
        due(x.told(0, 5, 2), 2);
        due(x.told(0, 5, 3), 3);
        due(x.told(0, 5, 4), 1);
        due(x.told(0, 5, 5), 0);
        due(x.told(0, 5, 6), 2 + 5 + 6 + 7 + 4);
        due(x.told(0, 0, 0), 1);
        due(x.told(0, 0, 1), 3);
        due(x.told(0, 0, 5), 3);
        due(x.told(0, 0, 6), 0);
        // Its own COST, whatever was SPENT ahead.
        due(x.call(ROUND), 1);
        due(x.told(0, 1, 6), 2);

        x = withKinds("It is danced in truth: STEPS.", 2);
        due(x.row(0, 0, 160), 1);
        due(x.dances(0, 160), 160);
        due(x.dances(0, 0), 160);
        due(x.status(2), 160);
        fill(x, 0, 0, CHANGE, CHANGE, 7);
        due(x.dances(0, 3), -6);
        now(x, 0, 1);
        stand(x, 0, 1, 2, 3);
        due(x.status(1), 160);
        due(x.dances(0, 2), 162);
        now(x, 2, 1);
    }

    private static void judged() {
        TwoRopes x = withKinds("The DANCE of the first n elements (0 to 160) of the ROW in SHELF s:"
                + " the first place at which there is no such FIGURE, or no ROOM; NONE.", 1);
        due(x.row(0, 0, 160), 1);
        due(x.judge(0, 0), NONE);
        due(x.judge(0, 160), NONE);
        due(x.set(0, 159, 7), 1);
        due(x.judge(0, 160), 159);
        due(x.judge(0, 159), NONE);
        due(x.set(0, 0, -1), 1);
        due(x.judge(0, 160), 0);
        due(x.judge(0, 1), 0);
        due(x.judge(0, 0), NONE);
        fill(x, 1, 0, CHANGE, TURN, CHANGE, BACK, CHANGE);
        due(x.start(TRILLION - 1, 1), 1);
        due(x.judge(1, 5), NONE);
        due(x.start(TRILLION, 1), 1);
        due(x.judge(1, 5), 0);
        // From 1 by 10 to the power of 12 on it is the second CHANGE, of -10 to the power of 12 by 1, that there is ROOM for.
        fill(x, 1, 0, UNDER, TURN, UNDER, TURN, UNDER);
        due(x.start(1, TRILLION), 1);
        // 1 - t by t; t by t - 1; 1 by t - 1; 1 - t by 1; -t by 1.
        due(x.judge(1, 5), NONE);
        due(x.told(1, 5, 0), -TRILLION);
        fill(x, 1, 0, UNDER, TURN, UNDER, TURN, UNDER, UNDER, 7);
        due(x.judge(1, 7), 5);
    }

    private static void repeated() {
        TwoRopes x = withKinds("REPEATED t times from NOW: P (what 0), Q (1), the dancer at corner 0 (2).", 2);
        fill(x, 0, 0, TURN);
        for (int t = 0; t < 8; t++) {
            due(x.repeated(0, 1, t, 2), (4 - t % 4) % 4);
            due(x.repeated(0, 1, t, 0), t % 2);
            due(x.repeated(0, 1, t, 1), 1 - t % 2);
        }
        due(x.repeated(0, 1, 9999, 2), 1);
        due(x.repeated(0, 1, 10000, 2), 0);
        // Over and on come back after three times, the dancers after other times.
        fill(x, 0, 0, CHANGE, TURN);
        due(x.start(5, 7), 1);
        for (int t : new int[] {3, 36, 39, 9999}) {
            due(x.repeated(0, 2, t, 0), 5);
            due(x.repeated(0, 2, t, 1), 7);
        }
        due(x.repeated(0, 2, 10000, 0), -7);
        due(x.repeated(0, 2, 10000, 1), 12);
        due(x.repeated(0, 2, 37, 0), -7);
        due(x.repeated(0, 2, 38, 0), -12);
        // 160 FIGURES 10,000 times.
        due(x.row(1, 0, 160), 1);
        for (int i = 0; i < 160; i++) {
            due(x.set(1, i, i % 2 == 0 ? MANY : UNDER), 1);
        }
        due(x.repeated(1, 160, 10000, 0), 5 + 7 * 80 * 10000);
        due(x.repeated(1, 160, 10000, 1), 7);
        due(x.repeated(1, 160, 10000, 2), 0);
    }

    /** What is danced again and again by the rule, against the same danced one by one. */
    private static void straight() {
        TwoRopes x = of("..7 no ROOM.");
        int[][] dances = {{CHANGE}, {UNDER}, {TURN, UNDER, BACK}, {TURN, MANY, TURN}, {CHANGE, TURN}, {UNDER, TURN, ROUND},
            {MANY, MANY, TURN, CHANGE}, {CHANGE, TURN, CHANGE, CHANGE, TURN, CHANGE}, {BACK, UNDER, BACK, MANY},
            {CHANGE, CHANGE, TURN}, {MANY, ROUND, UNDER, TURN, DANCE}};
        int[] times = {0, 1, 11, 12, 13, 35, 36, 37, 38, 47, 48, 49, 60, 61, 100};
        long[][] numbers = {{0, 1}, {1, 0}, {TRILLION - 47, 1}, {48 - TRILLION, 1}, {1, TRILLION - 37}, {-1, TRILLION},
            {5, 7}, {TRILLION - 1, TRILLION}};
        for (int[] dance : dances) {
            for (long[] number : numbers) {
                TwoRopes again = withKinds("..7 no ROOM.", 2);
                due(again.row(0, 0, dance.length), 1);
                for (int i = 0; i < dance.length; i++) {
                    due(again.set(0, i, dance[i]), 1);
                }
                due(again.start(number[0], number[1]), 1);
                long[] found = new long[times.length * 2];
                for (int i = 0; i < times.length; i++) {
                    found[2 * i] = again.repeated(0, dance.length, times[i], 0);
                    found[2 * i + 1] = again.repeated(0, dance.length, times[i], 2);
                }
                int done = 0;
                boolean room = true;
                for (int i = 0; i < times.length; i++) {
                    while (room && done < times[i]) {
                        room = again.dances(0, dance.length) > 0;
                        done++;
                    }
                    due(found[2 * i], room ? again.now(0) : FAR - 7);
                    due(found[2 * i + 1], room ? again.stand(0) : FAR - 7);
                }
            }
        }
    }

    private static void undone() {
        TwoRopes x = of("How many STEPS UNDO of NOW has.");
        long[][] counts = {{0, 1, 0}, {1, 0, 1}, {-1, 1, 1}, {1, 1, 2}, {2, 1, 5}, {1, 2, 3}, {-1, 2, 4}, {-TRILLION, 1, TRILLION},
            {TRILLION, 1, 3 * TRILLION - 1}, {1, TRILLION, TRILLION + 1}, {-1, TRILLION, 3 * TRILLION - 2}};
        for (long[] count : counts) {
            due(x.start(count[0], count[1]), 1);
            due(x.undo(), count[2]);
        }

        x = of("The i-th of them (0 over, 2 on).");
        due(x.start(TRILLION, 1), 1);
        // On, over; then on, over, over again and again.
        for (long i : new long[] {2, 3, 4, 5, 6, 7, 8, 1L << 32, 999999999999L, 2999999999996L, 2999999999997L}) {
            due(x.undoes(i), i % 3 == 2 ? ON_STEP : OVER_STEP);
        }
        due(x.undoes(0), ON_STEP);
        due(x.undoes(1), OVER_STEP);
        due(x.undoes(2999999999998L), OVER_STEP);
        due(x.undoes(2999999999999L), -5);
    }

    private static void freed() {
        TwoRopes x = of("The first n (0 to 40) STEPS of UNDO are danced in truth (each as a FIGURE of COST 1): how many were.");
        due(x.frees(40), 0);
        due(x.frees(0), 0);
        due(x.start(-41, 1), 1);
        due(x.frees(0), 0);
        now(x, -41, 1);
        due(x.frees(40), 40);
        now(x, -1, 1);
        stand(x, 0, 1, 2, 3);
        due(x.status(1), 40);
        due(x.status(2), 40);
        due(x.frees(40), 1);
        now(x, 0, 1);
        stand(x, 0, 2, 1, 3);
        due(x.status(1), 41);
        due(x.start(1, 0), 1);
        due(x.frees(1), 1);
        now(x, 0, 1);
        stand(x, 3, 0, 2, 1);
        due(x.start(TRILLION, TRILLION - 1), 1);
        due(x.frees(40), 40);
    }

    private static void drawn() {
        TwoRopes x = of("BY DRAWS n (1 to 40) STEPS in truth (each as a FIGURE of COST 1), until there is no ROOM: how many.");
        TwoRopes one = new TwoRopes();
        due(x.draws(40), 40);
        for (int i = 1; i <= 40; i++) {
            due(one.draws(1), 1);
            due(one.status(1), i);
            due(one.status(2), i);
        }
        due(x.status(1), 40);
        due(x.status(2), 40);
        due(x.status(3), one.status(3));
        now(x, one.now(0), one.now(1));
        for (int corner = 0; corner < 4; corner++) {
            due(x.stand(corner), one.stand(corner));
        }
        // It draws on from where it was.
        due(x.seed(1), one.status(3));
        due(x.draws(1), 1);
        due(x.status(3), 1103527590);
    }

    private static void imaged() {
        TwoRopes x = withKinds("THE IMAGE of all but SHELVES (and THE IMAGE, REFUSALS, the FAULT, THE TRACE) is taken:"
                + " how many FIGURES.", 1);
        due(x.image(), 7);
        due(x.call(CHANGE), 1);
        due(x.call(TURN), 2);
        due(x.start(5, 7), 1);
        due(x.seed(123), 1);
        fill(x, 0, 0, 1, 2, 3);
        fault(x, "call 9", 5);
        x.act(MANY, 2, 1);
        due(x.call(9), -1);
        due(x.figure(DANCE, 3, 4), 7);
        due(x.restore(), 7);
        now(x, 0, 1);
        stand(x, 0, 1, 2, 3);
        due(x.status(0), 7);
        due(x.status(1), 0);
        due(x.status(2), 0);
        due(x.status(3), 1);
        // SHELVES, REFUSALS, FAULT and TRACE are as they are.
        due(x.element(0, 2), 3);
        due(x.holds(7), 100);
        due(x.status(11), 1);
        due(x.status(16), 1);
        due(x.fault(), 5);
        trace(x, 41, 12, 40, 11, 20, 10, 20, 10);
        due(x.figureOf(7, 0), -5);
        // A later IMAGE takes the place of the first one.
        due(x.call(CHANGE), 1);
        due(x.image(), 7);
        due(x.call(CHANGE), 2);
        due(x.restore(), 7);
        now(x, 1, 1);
        due(x.status(1), 1);
    }

    private static void restored() {
        TwoRopes x = of("SHELVES with FIGURES hold those of these numbers, or NOTHING");
        due(x.figure(CHANGE, 0, 1), 0);
        due(x.figure(TURN, 0, 2), 1);
        due(x.image(), 2);
        due(x.figure(UNDER, 0, 3), 2);
        due(x.figure(BACK, 0, 4), 3);
        for (int s = 0; s < 4; s++) {
            due(x.show(s, s), 1);
            due(x.show(7 - s, s), 1);
        }
        due(x.restore(), 2);
        int[] held = {0, 1, NONE, NONE, NONE, NONE, 1, 0};
        for (int s = 0; s < 8; s++) {
            due(x.holds(s), held[s]);
        }
        due(x.says(2, DANCE), -3);
        due(x.says(1, DANCE), 2);
        // A new FIGURE of an old number is not held where that number was held ahead.
        due(x.figure(ROUND, 9, 9), 2);
        due(x.holds(2), NONE);
        due(x.show(2, 2), 1);
        due(x.says(2, ROUND), 1);
        due(x.figureOf(2, 2), 9);
        due(x.restore(), 2);
        due(x.holds(2), NONE);
        due(x.figureOf(2, 2), -5);

        // A ROW stays, though a FIGURE was there ahead.
        due(x.figure(ROUND, 9, 9), 2);
        due(x.show(5, 2), 1);
        fill(x, 5, 1, 77);
        due(x.restore(), 2);
        due(x.holds(5), 101);
        due(x.element(5, 0), 77);

        x = of("SHELVES with FIGURES hold those of these numbers, or NOTHING");
        due(x.image(), 0);
        due(x.figure(CHANGE, 0, 1), 0);
        due(x.show(0, 0), 1);
        due(x.restore(), 0);
        due(x.holds(0), NONE);
        due(x.status(0), 0);
        due(x.call(0), -1);
        // A text that is refused leaves nothing in the way of what THE IMAGE has.
        due(x.figure(CHANGE, 0, 5), 0);
        due(x.image(), 1);
        fault(x, "figure 4 0 1;figure 4 0 1;call 3", 31);
        due(x.restore(), 1);
        due(x.figureOf(0, 0), CHANGE);
        due(x.figure(MANY, 7, 1), 1);
        due(x.figureOf(1, 0), MANY);
    }

    private static void often() {
        TwoRopes x = withKinds("0 FIGURES, 1 STEPS, 2 SPENT, 3 SEED, 4 bodies that ran in the latest act() (all, kept or not)", 9);
        int[][] bodies = {{1, 2, 4}, {2, 3, 6}, {2, 4, 7}, {2, 4, 8}, {1, 2, 5}, {2, 3, 7}, {1, 3, 7}};
        for (int kind = DANCE; kind <= ROUND; kind++) {
            for (int act = 0; act < 3; act++) {
                x.act(kind, act, 100);
                due(x.status(4), bodies[kind][act]);
            }
        }
        due(x.status(0), 7);
        due(x.status(1), 0);
        due(x.status(2), 0);
        due(x.status(3), 1);
        due(x.seed(-1), 1);
        due(x.status(3), -1);
    }

    private static void forgotten() {
        TwoRopes x = of("-7 more than 7 of 3, no ROOM.");
        fill(x, 0, 0, 0, 3, 2, 3);
        due(x.start(TRILLION, 1), 1);
        due(x.forgot(0, 4), -7);
        due(x.kept(9, 1), 0);
        due(x.start(0, 1), 1);
        // 1; 2 or 0; -1/2 or BEYOND; 1/2, -3/2 or BEYOND.
        due(x.forgot(0, 4), 3);
        due(x.may(0, 4, 0), -3);
        // One of the ways has no ROOM, the other has.
        due(x.start(TRILLION, 1), 1);
        fill(x, 0, 0, 3);
        due(x.forgot(0, 1), -7);
        due(x.start(-TRILLION, 1), 1);
        due(x.forgot(0, 1), -7);
        due(x.start(TRILLION - 1, 1), 1);
        due(x.forgot(0, 1), 2);
        due(x.start(1, TRILLION), 1);
        due(x.forgot(0, 1), -7);
    }

    private static void counted() {
        TwoRopes x = of("how many never make P, nor Q, above b");
        // Only what the STEPS make is looked at: NOW may be above b.
        due(x.start(5, 1), 1);
        due(x.kept(0, 1), 1);
        due(x.kept(1, 4), 1);
        due(x.kept(1, 5), 2);
        due(x.kept(1, 6), 3);
        due(x.start(1, 5), 1);
        due(x.kept(1, 4), 0);
        due(x.kept(1, 5), 2);
        due(x.start(1, 0), 1);
        due(x.kept(9, 1) > 1000 ? 1 : 0, 1);

        x = of("how many of these rows end at a told NUMBER (whatever is between)");
        // Each of the 81 rows of 4 ends somewhere, P and Q being 4 at most.
        long all = 0;
        for (int p = -4; p <= 4; p++) {
            for (int q = 0; q <= 4; q++) {
                all += Math.max(x.lot(4, p, q), 0);
            }
        }
        due(all, 81);
    }
}
