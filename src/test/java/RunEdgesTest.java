/**
 * The edges of a run: jumps, CALLs and RETURNs, how it has ended and how it has stopped, handlers and
 * those sought through CALLs, faults, and promises 17 and 18.
 */
public final class RunEdgesTest extends LoomTest {
    private static final int[][] NONE = {};

    private static void states(String what, Loom x, int... due) {
        for (int k = 0; k < due.length; k += 2) due(what + ": state " + due[k], x.state(due[k]), due[k + 1]);
    }

    /** "It has ENDED by HALT, by 30 (see there), and when it is at a place where the program has no step." */
    private static void ended() {
        for (int before : new int[] {0, 1, 148, 149}) {
            int[][] first = times(before, 1, 1, 1);
            Loom x = ran(with(first, s(0)));
            states("ended by HALT at " + before, x, 2, before, 3, before + 1, 10, 2);
            x = ran(with(first, s(30)));
            states("ended by 30 at " + before, x, 2, before, 3, before + 1, 4, 0, 10, 2);
            x = ran(with(first, s(1, 2, 2)));
            states("ended behind the step at " + before, x, 2, before + 1, 3, before + 1, 10, 2);
            due("ended behind the step at " + before + ", which is done", x.word(2), 2);
        }
        Loom x = ran(s(29, 2), s(0), s(0));
        states("ended by HALT in a CALL", x, 2, 2, 3, 2, 4, 1, 10, 2);
    }

    /** A place with the last step, the place behind it, and the last place that can be named: for 27, 28, 29 and a handler. */
    private static void placesWithoutStep() {
        for (int steps : new int[] {2, 3, 149, 150}) {
            for (int to : new int[] {steps - 1, steps, steps + 1, 199}) {
                String what = steps + " steps, on at " + to;
                boolean there = to < steps;
                int[][] rest = times(steps - 1, 1, 1, 1);
                int[][] jumps = {s(27, to), s(28, 0, to), s(29, to), s(7, 0, 0, 0)};
                for (int[] jump : jumps) {
                    Loom x = loom(with(new int[][] {jump}, rest));
                    x.handler(0, 1, 1 << ZERO, to);
                    x.start();
                    due(what + " by " + jump[0] + ": step", x.step(1), there ? 0 : 1);
                    states(what + " by " + jump[0], x, 2, to, 3, 1, 4, jump[0] == 29 ? 1 : 0, 10, there ? 1 : 2);
                    due(what + " by " + jump[0] + ": the end", x.step(1), 1);
                    states(what + " by " + jump[0] + ": the end", x, 2, there ? steps : to, 3, there ? 2 : 1);
                }
            }
        }
        // RETURN to the place behind the last step, be it the 150th.
        for (int last : new int[] {2, 3, 148, 149}) {
            Loom x = ran(with(with(new int[][] {s(27, last), s(30)}, times(last - 2, 0)), s(29, 1)));
            states("RETURN behind the last step, " + last, x, 2, last + 1, 3, 3, 4, 0, 10, 2);
        }
    }

    /** "28 on at place b, if Wa is 0." */
    private static void jumps() {
        for (int value : new int[] {MIN, -1, 0, 1, 256, 65536, MAX}) {
            Loom x = after(started(s(1, 7, value), s(28, 7, 3), s(0), s(0)), 2);
            due("28 with " + value, x.state(2), value == 0 ? 3 : 2);
        }
        Loom x = after(started(s(27, 0)), 1);
        due("27 to itself", x.state(2), 0);
        x = after(started(s(1, 0, 1), s(27, 0)), 2);
        due("27 back to the first", x.state(2), 0);
        x = after(started(s(27, 0)), 100);
        for (int k = 0; k < 300; k++) x.step(100);
        states("27 for ever", x, 2, 0, 3, 30100, 10, 1);
    }

    /** "29 CALL: on at place a; the place behind this step is that of RETURN.", "30 RETURN: on at the place of the latest CALL that has not returned" */
    private static void calls() {
        for (int depth = 0; depth <= 12; depth++) {
            // CALL k stands at 2 * k and goes to 2 * k + 2; behind each CALL is a RETURN.
            int[][] all = NONE;
            for (int k = 0; k < depth; k++) all = with(all, s(29, 2 * k + 2), s(30));
            Loom x = started(with(all, s(30)));
            if (depth > 0) after(x, depth);
            states("CALLs " + depth + " deep", x, 2, 2 * depth, 4, depth);
            for (int left = depth - 1; left >= 0; left--) {
                due("RETURN: there is more", x.step(1), 0);
                states("RETURN to the CALL " + left, x, 2, 2 * left + 1, 4, left);
            }
            due("RETURN of none", x.step(1), 1);
            states("RETURN of none", x, 2, depth == 0 ? 0 : 1, 3, 2 * depth + 1, 4, 0, 10, 2);
        }
    }

    /** Steps, the last of which fails with that number. */
    private static int[][] failing(int number) {
        switch (number) {
            case MISSING: return new int[][] {s(35, 1), s(38, 1, 1)};
            case INDEX: return new int[][] {s(31, 1, 4, 0), s(43, 1, 1, 0)};
            case SIZE: return new int[][] {s(1, 1, -1), s(31, 1, 4, 1)};
            case CAST: return new int[][] {s(33, 1, 11, 0), s(38, 1, 1)};
            case STORE: return new int[][] {s(1, 1, 1), s(31, 1, 9, 1), s(33, 2, 11, 0), s(57, 2, 1, 0)};
            case ZERO: return new int[][] {s(7, 0, 0, 0)};
            case ROOM: return new int[][] {s(1, 1, 13), s(31, 1, 4, 1)};
            default: return new int[][] {s(1, 1, number - 8), s(67, 1, 1, 0), s(68, 1)};
        }
    }

    private static void handled(String what, int number, int mask, boolean due) {
        int[][] first = failing(number);
        int place = first.length - 1;
        Loom x = loom(with(first, s(0), s(72, 7), s(73, 7), s(0)));
        x.handler(place, place + 1, mask, place + 2);
        x.start();
        due(what + ": step", run(x), due ? 1 : 2);
        states(what, x, 2, due ? place + 4 : place, 7, 1, 8, number, 9, place, 10, due ? 2 : 3);
        due(what + ": 72", x.told(0), due ? number : 0);
    }

    /** "bit n of the MASK is 1", for each failure 1 .. 23 */
    private static void masks() {
        for (int n = 1; n <= 23; n++) {
            handled("failure " + n + ", its bit alone", n, 1 << n, true);
            handled("failure " + n + ", all bits but its", n, ~(1 << n), false);
            handled("failure " + n + ", all bits", n, -1, true);
            handled("failure " + n + ", no bit", n, 0, false);
            for (int bit = 0; bit < 32; bit++) handled("failure " + n + ", bit " + bit, n, 1 << bit, bit == n);
        }
    }

    /** "the step's place is from .. to - 1" */
    private static void fromAndTo() {
        for (int place : new int[] {0, 1, 2, 148, 149}) {
            for (int from : new int[] {0, place - 1, place, place + 1, 199}) {
                for (int to : new int[] {0, place - 1, place, place + 1, place + 2, 199}) {
                    if (from < 0 || to < 0) continue;
                    Loom x = loom(with(times(place, 1, 1, 1), s(7, 0, 0, 0)));
                    due("a handler", x.handler(from, to, 1 << ZERO, 199), 1);
                    x.start();
                    boolean due = from <= place && place <= to - 1;
                    due("handler " + from + " .. " + to + " - 1 for " + place, run(x), due ? 1 : 2);
                    states("handler " + from + " .. " + to + " - 1 for " + place, x, 2, due ? 199 : place, 10, due ? 2 : 3);
                }
            }
        }
    }

    /** "by the first handler told" */
    private static void theFirstTold() {
        int[][] handlers = {{0, 1, 1 << ZERO, 2}, {0, 1, -1, 3}, {0, 1, 1 << ROOM, 4}, {1, 9, -1, 5}, {0, 0, -1, 6}};
        for (int i = 0; i < 5; i++) {
            for (int k = 0; k < 5; k++) {
                Loom x = loom(with(times(1, 7, 0, 0, 0), times(9, 0)));
                for (int h : new int[] {i, k}) x.handler(handlers[h][0], handlers[h][1], handlers[h][2], handlers[h][3]);
                x.start();
                int due = i <= 1 ? handlers[i][3] : k <= 1 ? handlers[k][3] : 0;
                due("the first told of " + i + ", " + k, x.step(1), due == 0 ? 2 : 0);
                due("the first told of " + i + ", " + k + ": on at", x.state(2), due);
            }
        }
    }

    /** CALL k stands at place k and goes to k + 1; the step at place depth fails with MISSING; behind it, a RETURN at 20. */
    private static Loom chain(int depth) {
        int[][] all = NONE;
        for (int k = 0; k < depth; k++) all = with(all, s(29, k + 1));
        all = with(all, s(38, 1, 1));
        return loom(with(with(all, times(20 - all.length, 0)), s(30)));
    }

    /** "the latest CALL that has not returned is given up, and handlers are sought for it (the CALL's place), and so on" */
    private static void throughCalls() {
        for (int depth = 0; depth <= 12; depth++) {
            for (int at = 0; at <= depth; at++) {
                String what = depth + " CALLs, handled at " + at;
                Loom x = chain(depth);
                x.handler(at, at + 1, 1 << MISSING, 20);
                x.start();
                due(what + ": there is more", x.step(depth + 1), 0);
                states(what, x, 2, 20, 3, depth + 1, 4, at, 7, 1, 8, MISSING, 9, depth, 10, 1);
                due(what + ": RETURN", x.step(1), at == 0 ? 1 : 0);
                states(what + ": RETURN", x, 2, at == 0 ? 20 : at, 4, at == 0 ? 0 : at - 1);
            }
            Loom x = chain(depth);
            // Next to all places of the chain, and for other failures in it.
            x.handler(depth + 1, 199, -1, 20);
            x.handler(0, depth + 1, ~(1 << MISSING), 20);
            x.start();
            due(depth + " CALLs, none handles: step", x.step(depth + 1), 2);
            states(depth + " CALLs, none handles", x, 2, depth, 3, depth + 1, 4, 0, 7, 1, 8, MISSING, 9, depth, 10, 3);
        }
    }

    /** The step's own handlers come ahead of its CALL's, however they were told; those of the latest CALL ahead of the others. */
    private static void theNearest() {
        for (int outer = 0; outer <= 2; outer++) {
            for (int inner = outer; inner <= 2; inner++) {
                for (int order = 0; order < 2; order++) {
                    Loom x = chain(2);
                    x.handler(order == 0 ? outer : inner, (order == 0 ? outer : inner) + 1, -1, order == 0 ? 18 : 19);
                    x.handler(order == 0 ? inner : outer, (order == 0 ? inner : outer) + 1, -1, order == 0 ? 19 : 18);
                    x.start();
                    x.step(3);
                    boolean firstIsOuter = inner == outer && order == 0;
                    due("the nearest of " + outer + ", " + inner, x.state(2), firstIsOuter ? 18 : 19);
                    due("the nearest of " + outer + ", " + inner + ": CALLs", x.state(4), inner);
                }
            }
        }
        // A nearer one that does not name the failure is passed by.
        Loom x = chain(2);
        x.handler(1, 3, ~(1 << MISSING), 18);
        x.handler(0, 1, 1 << MISSING, 19);
        x.start();
        x.step(3);
        states("a nearer one for other failures", x, 2, 19, 4, 0);
        // One range round the step and its CALLs gives up none.
        x = chain(2);
        x.handler(0, 3, 1 << MISSING, 19);
        x.start();
        x.step(3);
        states("one range round all", x, 2, 19, 4, 2);
    }

    /** A CALL that has returned, or was given up, is not sought again. */
    private static void callsThatAreGone() {
        Loom x = loom(s(29, 3), s(38, 1, 1), s(0), s(30));
        x.handler(0, 1, -1, 2);
        x.start();
        due("a CALL that has returned handles nothing", run(x), 2);
        states("a CALL that has returned", x, 2, 1, 4, 0, 9, 1);

        x = loom(s(29, 2), s(0), s(38, 1, 1), s(7, 0, 0, 0), s(0));
        x.handler(0, 1, 1 << MISSING, 3);
        x.handler(0, 1, 1 << ZERO, 4);
        x.start();
        due("a CALL that was given up handles nothing", run(x), 2);
        states("a CALL that was given up", x, 2, 3, 3, 3, 4, 0, 7, 2, 8, ZERO, 9, 3, 10, 3);

        // Twelve are given up: there is room for twelve.
        int[][] all = {s(28, 7, 2), s(0)};
        all = with(all, s(29, 4), s(0));
        for (int k = 4; k < 15; k++) all = with(all, s(29, k + 1));
        all = with(all, s(38, 1, 1), s(1, 7, 1), s(27, 2));
        x = loom(all);
        x.handler(2, 3, 1 << MISSING, 16);
        x.start();
        for (int again = 0; again < 3; again++) {
            int steps = again == 0 ? 1 + 12 : 2 + 12;
            due("twelve that were given up: CALLs", after(x, steps).state(4), 12);
            due("twelve that were given up: no ROOM", x.state(7), again);
            due("twelve that were given up: handled", x.step(1), 0);
            states("twelve that were given up", x, 2, 16, 4, 0, 7, again + 1, 8, MISSING, 9, 15);
        }
    }

    /** ROOM of a 13th CALL is a failure of that step: no CALL is given up, if its own place is handled. */
    private static void theThirteenthCall() {
        Loom x = loom(s(29, 0), s(0), s(30));
        x.handler(0, 1, 1 << ROOM, 2);
        x.start();
        due("the 13th CALL: there is more", x.step(13), 0);
        states("the 13th CALL", x, 2, 2, 3, 13, 4, 12, 7, 1, 8, ROOM, 9, 0);
        due("the 13th CALL: RETURN", x.step(1), 0);
        states("the 13th CALL: RETURN", x, 2, 1, 4, 11);
        x = loom(s(29, 0), s(0));
        x.start();
        due("the 13th CALL, not handled", x.step(13), 2);
        states("the 13th CALL, not handled", x, 2, 0, 3, 13, 4, 0, 7, 1, 8, ROOM, 9, 0, 10, 3);
    }

    /** "the run goes on at its place at": the step itself, a place before and behind it, and one without a step. */
    private static void onAt() {
        for (int at : new int[] {0, 1, 2, 3, 4, 198, 199}) {
            Loom x = loom(s(1, 1, 1), s(1, 2, 2), s(7, 0, 0, 0), s(0));
            x.handler(2, 3, 1 << ZERO, at);
            x.start();
            due("on at " + at, x.step(3), at < 4 ? 0 : 1);
            states("on at " + at, x, 2, at, 7, 1, 8, ZERO, 9, 2, 10, at < 4 ? 1 : 2);
        }
        Loom x = loom(s(7, 0, 0, 0));
        x.handler(0, 1, -1, 0);
        x.start();
        due("on at itself", x.step(100), 0);
        states("on at itself", x, 2, 0, 3, 100, 7, 100, 8, ZERO, 9, 0, 10, 1);
    }

    /** "67 Ta := a new FAULT, its NUMBER 8 and Wb's lowest four bits" */
    private static void numbersOfFaults() {
        int[][] rows = {{0, 8}, {1, 9}, {14, 22}, {15, 23}, {16, 8}, {17, 9}, {31, 23}, {32, 8}, {-1, 23}, {-2, 22}, {-15, 9}, {-16, 8}, {-17, 23}, {MIN, 8}, {MIN + 15, 23}, {MAX, 23}, {MAX - 15, 8}};
        for (int[] r : rows) {
            Loom x = ran(s(1, 6, r[0]), s(67, 7, 6, 0), s(70, 5, 7), s(34, 0, 7), s(67, 1, 6, 0), s(71, 2, 1), s(33, 3, 11, 0), s(71, 3, 2));
            due("67 of " + r[0] + ": its NUMBER", x.field(7, 0), r[1]);
            due("70 of " + r[0], x.word(5), r[1]);
            due("71: its CAUSE", x.same(2, 7), true);
            due("71: NOTHING", x.kind(3), -1);
            x = started(s(1, 6, r[0]), s(67, 7, 6, 0), s(68, 7));
            due("68 of " + r[0] + ": stops", run(x), 2);
            states("68 of " + r[0], x, 2, 2, 7, 1, 8, r[1], 9, 2, 10, 3);
        }
    }

    /** "69 Ta := the fault that was thrown, if the latest failure that was handled was one by 68, else NOTHING."; "72 .. 0 before one" */
    private static void theLatestHandled() {
        int[][] look = {s(69, 6), s(72, 6)};
        for (int n = 1; n <= 23; n++) {
            for (int m = 1; m <= 23; m++) {
                int[][] first = failing(n);
                int[][] all = with(with(first, s(33, 6, 11, 0)), look);
                all = with(with(with(all, failing(m)), s(33, 7, 11, 0)), s(69, 7), s(72, 7));
                Loom x = loom(all);
                int firstPlace = first.length - 1;
                int secondPlace = all.length - 4;
                x.handler(firstPlace, firstPlace + 1, 1 << n, firstPlace + 1);
                x.handler(secondPlace, secondPlace + 1, 1 << m, secondPlace + 1);
                x.start();
                due("72: " + n + ", then " + m + ": ended", run(x), 1);
                due("72 behind " + n, x.word(6), n);
                due("72 behind " + n + ", " + m, x.word(7), m);
                due("69 behind " + n, x.kind(6), n >= 8 ? 15 : -1);
                due("69 behind " + n + ", " + m, x.kind(7), m >= 8 ? 15 : -1);
                if (m >= 8) due("69: the fault that was thrown", x.same(7, 1), true);
            }
        }
        Loom x = ran(s(1, 6, 9), s(33, 6, 11, 6), s(69, 6), s(72, 6));
        due("69 before one", x.kind(6), -1);
        due("72 before one", x.word(6), 0);
        // 68 of NOTHING or of another thing throws no fault.
        for (int kind : new int[] {-1, 4, 11, 14}) {
            int[][] all = {s(67, 1, 0, 0), s(68, 1), s(35, 1), kind < 0 ? s(35, 1) : make(1, kind), s(68, 1), s(69, 6), s(72, 6)};
            x = loom(all);
            x.handler(1, 2, -1, 2);
            x.handler(4, 5, -1, 5);
            x.start();
            due("68 of kind " + kind + ": ended", run(x), 1);
            due("69 behind 68 of kind " + kind, x.kind(6), -1);
            due("72 behind 68 of kind " + kind, x.word(6), kind < 0 ? MISSING : CAST);
        }
        // The fault is kept, though no register has it any more; 69 and 72 can be asked again.
        x = loom(s(67, 1, 0, 0), s(68, 1), s(34, 2, 1), s(35, 1), s(69, 3), s(69, 4), s(72, 3), s(72, 4));
        x.handler(1, 2, 1 << 8, 2);
        x.start();
        due("69 again: ended", run(x), 1);
        due("69: the same", x.same(2, 3), true);
        due("69 again: the same", x.same(2, 4), true);
        due("72 again", x.word(4), 8);
        // Thrown again out of CALLs: the same fault, and the place of the latest THROW.
        x = loom(s(29, 2), s(0), s(67, 1, 0, 0), s(68, 1), s(69, 2), s(68, 2), s(0), s(69, 3));
        x.handler(3, 4, -1, 4);
        x.handler(0, 1, 1 << 8, 7);
        x.start();
        due("68 again: ended", run(x), 1);
        due("68 again: the same", x.same(1, 3), true);
        states("68 again", x, 4, 0, 7, 2, 8, 8, 9, 5);
    }

    /** Promise 17: "The i-th number told in the run, from 0; 0 if there is none. Of more than 200 the first 200 are kept." */
    private static void told() {
        for (int count : new int[] {0, 1, 2, 199, 200, 201, 202, 300}) {
            // W0 counts down from count, W2 up from 1001; TELL W2.
            Loom x = started(s(1, 0, count), s(1, 1, 1), s(1, 2, 1000), s(28, 0, 8), s(5, 0, 0, 1), s(4, 2, 2, 1), s(73, 2), s(27, 3), s(0));
            due("told: ended", run(x), 1);
            due("told: how many", x.state(6), count);
            for (int i : new int[] {MIN, -200, -1, 0, 1, 2, 198, 199, 200, 201, 202, 299, 300, MAX}) {
                due("told " + i + " of " + count, x.told(i), i >= 0 && i < count && i < 200 ? 1001 + i : 0);
            }
        }
        Loom x = ran(s(1, 0, MIN), s(73, 0), s(1, 0, MAX), s(73, 0), s(1, 0, 0), s(73, 0), s(1, 7, -1), s(73, 7));
        int[] due = {MIN, MAX, 0, -1, 0};
        for (int i = 0; i < 5; i++) due("told " + i, x.told(i), due[i]);
        due("told: a 0 counts", x.state(6), 4);
        // A new run has told nothing, though the one before told more than 200.
        x = loom(s(1, 0, 5), s(73, 0), s(27, 1));
        x.start();
        after(x, 500);
        due("told: the 200th", x.told(199), 5);
        x.start();
        for (int i : new int[] {0, 1, 199, 200}) due("told: nothing in a new run", x.told(i), 0);
        after(x, 2);
        due("told: one in a new run", x.told(0), 5);
        due("told: and no second", x.told(1), 0);
    }

    /** Promise 18: each of the states in a run with a CALL, things, numbers told and failures; "-1: no such what" */
    private static void states() {
        Loom x = loom(s(29, 2), s(0), s(33, 0, 11, 0), s(73, 0), s(7, 0, 0, 0), s(31, 1, 4, 0), s(38, 1, 0), s(73, 0), s(29, 2));
        x.handler(4, 5, 1 << ZERO, 5);
        x.handler(9, 9, 0, 0);
        x.start();
        int[][] due = {
            {9, 2, 0, 0, 0, 0, 0, 0, 0, -1, 1}, {9, 2, 2, 1, 1, 0, 0, 0, 0, -1, 1}, {9, 2, 3, 2, 1, 1, 0, 0, 0, -1, 1}, {9, 2, 4, 3, 1, 1, 1, 0, 0, -1, 1},
            {9, 2, 5, 4, 1, 1, 1, 1, 6, 4, 1}, {9, 2, 6, 5, 1, 2, 1, 1, 6, 4, 1}, {9, 2, 6, 6, 0, 2, 1, 2, 4, 6, 3}, {9, 2, 6, 6, 0, 2, 1, 2, 4, 6, 3},
        };
        for (int k = 0; k < due.length; k++) {
            for (int what = 0; what <= 10; what++) due("state " + what + " behind " + k + " steps", x.state(what), due[k][what]);
            for (int what : new int[] {MIN, -2, -1, 11, 12, 100, MAX}) due("state " + what, x.state(what), -1);
            x.step(1);
        }
        // "of the latest run": it is told of behind put, handler and clear, too, until another begins.
        int[] last = due[due.length - 1];
        for (int change = 0; change < 3; change++) {
            if (change == 0) x.put(0, 0, 0, 0);
            else if (change == 1) x.handler(0, 0, 0, 0);
            else x.clear();
            for (int what = 2; what <= 9; what++) due("state " + what + " of the latest run", x.state(what), last[what]);
            due("state 10: no run", x.state(10), 0);
            due("state 0: steps", x.state(0), change < 2 ? 10 : 0);
            due("state 1: handlers", x.state(1), change == 0 ? 2 : change == 1 ? 3 : 0);
        }
        x.start();
        int[] none = {0, 0, 0, 0, 0, 0, 0, 0, 0, -1, 2};
        for (int what = 0; what <= 10; what++) due("state " + what + " of a run without a step", x.state(what), none[what]);
    }

    public static void main(String[] args) {
        ended();
        placesWithoutStep();
        jumps();
        calls();
        masks();
        fromAndTo();
        theFirstTold();
        throughCalls();
        theNearest();
        callsThatAreGone();
        theThirteenthCall();
        onAt();
        numbersOfFaults();
        theLatestHandled();
        told();
        states();
        finish();
    }
}
