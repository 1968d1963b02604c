/**
 * The edges of promises 1 to 6: a new object, put, handler, clear, start and step, each at the last
 * value that is allowed and at the first that is not. What is quoted stands so in the document.
 */
public final class ProgramEdgesTest extends LoomTest {
    // W1, W2 .. are 1, 2 .., T3 is a knot, and there is a number told.
    private static final int[][] BUSY = {
        s(1, 1, 1), s(1, 2, 2), s(1, 7, 7), s(2, 0, 1, 2), s(2, 3, -1, 2), s(15, 0, 0), s(15, 3, 3), s(16, 0, 0), s(16, 3, 3),
        s(33, 0, 14, 7), s(33, 3, 13, 2), s(31, 7, 4, 2), s(73, 7), s(29, 14),
    };

    /** A run that is where it has that state (10): 1 there is more, 2 it has ended, 3 it has stopped. */
    private static Loom busy(int state) {
        int[] last = state == 1 ? s(27, 14) : state == 2 ? s(0) : s(7, 0, 0, 0);
        Loom x = started(with(BUSY, last, s(0)));
        x.step(20);
        due("busy: as wanted", x.state(10), state);
        return x;
    }

    /** "No steps, no handlers, no run; registers are 0 and NOTHING." */
    private static void aNewObject() {
        Loom x = new Loom();
        due("a new object: no steps", x.state(0), 0);
        due("a new object: no handlers", x.state(1), 0);
        due("a new object: no run", x.state(10), 0);
        due("a new object: no run to step", x.step(0), -1);
        for (int r = 0; r < 8; r++) {
            due("a new object: W" + r, x.word(r), 0);
            due("a new object: T" + r, x.kind(r), -1);
        }
        for (int r = 0; r < 4; r++) {
            due("a new object: L" + r, x.wide(r), 0);
            due("a new object: F" + r, x.single(r), 0.0);
            due("a new object: D" + r, x.real(r), 0.0);
        }
        // "of the latest run (0 before one)", "9 its step's place (-1 before one)"
        for (int what = 2; what <= 8; what++) due("a new object: state " + what, x.state(what), 0);
        due("a new object: state 9", x.state(9), -1);
        due("a new object: nothing is told", x.told(0), 0);
        due("a new object: no step to clear", x.clear(), 0);
        due("a new object: no step to start", x.start(), false);
        busy(1);
        due("a new object has nothing of another's", new Loom().word(7), 0);
        due("a new object has no steps of another's", new Loom().state(0), 0);
    }

    /** "-1: op is not 0 .. 73" */
    private static void putOperations() {
        for (int op : new int[] {MIN, -74, -2, -1, 74, 75, 100, MAX}) {
            Loom x = new Loom();
            due("put " + op + ": no operation", x.put(op, 0, 0, 0), -1);
            due("put " + op + ": no step", x.state(0), 0);
        }
        for (int op = 0; op <= 73; op++) due("put " + op, new Loom().put(op, 0, op == 33 ? 11 : 0, 0), 1);
    }

    // What a, b, c of the operations 0 to 73 name: W, L, F, D, T a register; P a place; R, N, K a kind
    // (31: 0 .. 9, 33: 11 .. 14, 37: 0 .. 16); '.' nothing.
    private static final String NAMES =
        "... W.. L.. WW. WWW WWW WWW WWW WWW LLL LLL LLL LLL " // 0 .. 12
        + "LW. WL. FL. DL. LF. WD. DF. FD. FF. DD. FFF DDD WWW WDD " // 13 .. 26
        + "P.. WP. P.. ... TRW TWW TNW TT. T.. WTT WTK WT. " // 27 .. 38
        + "WTW WTW WTW WTW WTW LTW FTW DTW TTW TTW " // 39 .. 48
        + "WTW WTW WTW WTW WTW LTW FTW DTW TTW TTW " // 49 .. 58
        + "WT. WT. LT. LT. TT. TT. WTW WTW TWT T.. T.. WT. TT. W.. W.. "; // 59 .. 73

    private static int lowest(char sort) {
        return sort == 'N' ? 11 : sort == '.' ? MIN : 0;
    }

    private static int highest(char sort) {
        switch (sort) {
            case 'W': case 'T': return 7;
            case 'L': case 'F': case 'D': return 3;
            case 'P': return 199;
            case 'R': return 9;
            case 'N': return 14;
            case 'K': return 16;
            default: return MAX;
        }
    }

    /** "or a register, place (0 .. 199) or kind that the operation names is none"; "those that are not named are not looked at" */
    private static void putOperands() {
        for (int op = 0; op <= 73; op++) {
            String names = NAMES.substring(4 * op, 4 * op + 3);
            for (int at = 0; at < 3; at++) {
                char sort = names.charAt(at);
                int low = lowest(sort);
                int high = highest(sort);
                for (int value : new int[] {low, high, -1, 0, low - 1, high + 1, low - 2, high + 2, 4, 8, 15, 200, MIN, MAX}) {
                    int[] v = {lowest(names.charAt(0)), lowest(names.charAt(1)), lowest(names.charAt(2))};
                    v[at] = value;
                    Loom x = new Loom();
                    int due = value >= low && value <= high ? 1 : -1;
                    due("put " + op + " " + v[0] + " " + v[1] + " " + v[2], x.put(op, v[0], v[1], v[2]), due);
                    due("put " + op + ": steps", x.state(0), due == 1 ? 1 : 0);
                }
            }
        }
    }

    /** "(those that are not named are not looked at)": a step does the same, whatever they are. */
    private static void operandsThatAreNotNamed() {
        for (int op = 0; op <= 73; op++) {
            String names = NAMES.substring(4 * op, 4 * op + 3);
            int[] plain = {op, 0, 0, 0};
            for (int at = 0; at < 3; at++) plain[at + 1] = names.charAt(at) == '.' ? 0 : Math.max(lowest(names.charAt(at)), 3);
            long[] due = seen(ranWith(plain));
            for (int value : new int[] {MIN, -1, 3, 4, 8, 200, MAX}) {
                int[] odd = plain.clone();
                for (int at = 0; at < 3; at++) if (names.charAt(at) == '.' && !isNumber(op, at)) odd[at + 1] = value;
                sameBut(op + " with " + value + " where nothing is named", due, seen(ranWith(odd)));
            }
        }
    }

    /** The numbers that 1 and 2 give are looked at, though any is right. */
    private static boolean isNumber(int op, int at) {
        return op == 1 && at == 1 || op == 2 && at >= 1;
    }

    private static Loom ranWith(int[] step) {
        Loom x = started(with(BUSY, step, s(73, 1), s(73, 2)));
        x.step(100);
        return x;
    }

    /** "One more step: how many there are."; "else -2: there are 150." */
    private static void putIsFull() {
        Loom x = new Loom();
        for (int k = 1; k <= 149; k++) due("put: steps", x.put(1, k % 8, k, 0), k);
        due("put: 149", x.state(0), 149);
        due("put: the 150th", x.put(1, 0, 150, 0), 150);
        due("put: the 151st", x.put(1, 0, 151, 0), -2);
        due("put: the 151st again", x.put(0, 0, 0, 0), -2);
        due("put: a wrong operation ahead of full", x.put(74, 0, 0, 0), -1);
        due("put: a wrong register ahead of full", x.put(1, 8, 0, 0), -1);
        due("put: a wrong place ahead of full", x.put(27, 200, 0, 0), -1);
        due("put: a wrong kind ahead of full", x.put(31, 0, 10, 0), -1);
        due("put: there are 150", x.state(0), 150);
        x.start();
        due("put: 149 steps of 150", after(x, 149).state(2), 149);
        due("put: the 150th is done", x.step(1), 1);
        due("put: W0 by the 150th", x.word(0), 150);
        due("put: W5 by the 149th", x.word(5), 149);
        due("put: handlers are counted apart", x.handler(0, 0, 0, 0), 1);
        due("put: cleared", x.clear(), 150);
        due("put: room again", x.put(0, 0, 0, 0), 1);
    }

    private static final int[][] WRONG_PUTS = {{-1, 0, 0, 0}, {74, 0, 0, 0}, {1, 8, 0, 0}, {1, -1, 0, 0}, {27, 200, 0, 0}, {31, 0, 10, 0}, {33, 0, 10, 0}, {33, 0, 15, 0}, {37, 0, 0, 17}};

    /** "(Nothing is done then.)" */
    private static void putThatIsRefused() {
        for (int state = 1; state <= 3; state++) {
            Loom x = busy(state);
            long[] before = seen(x);
            for (int[] p : WRONG_PUTS) due("put that is refused", x.put(p[0], p[1], p[2], p[3]), -1);
            sameBut("put that is refused: nothing is done, state " + state, before, seen(x));
            due("put that is refused: the run goes on", x.step(1), state - 1);
        }
        Loom x = after(started(with(times(149, 1, 3, 7), s(27, 0))), 5);
        long[] before = seen(x);
        due("put beyond 150", x.put(1, 3, 8, 0), -2);
        sameBut("put beyond 150: nothing is done", before, seen(x));
        due("put beyond 150: the run goes on", x.step(100), 0);
        due("put beyond 150: its steps are the same", x.step(100), 0);
        due("put beyond 150: W3", x.word(3), 7);
        x = new Loom();
        x.put(74, 0, 0, 0);
        due("put that is refused: still no run", x.state(10), 0);
    }

    /** "There is no run any more, registers stay." */
    private static void putEndsTheRun() {
        for (int state = 1; state <= 3; state++) {
            Loom x = busy(state);
            long[] before = seen(x);
            due("put", x.put(0, 0, 0, 0), 17);
            sameBut("put: registers stay", before, seen(x), "state 0", "state 10");
            due("put: no run any more", x.state(10), 0);
            due("put: no run to step", x.step(1), -1);
            due("put: another", x.put(0, 0, 0, 0), 18);
        }
    }

    /** "-1: from, to or at is not 0 .. 199; else -2: there are 16." */
    private static void handlerPlaces() {
        for (int p : new int[] {MIN, -200, -1, 0, 1, 198, 199, 200, 201, MAX}) {
            boolean place = p >= 0 && p <= 199;
            due("handler from " + p, new Loom().handler(p, 5, 1, 5), place ? 1 : -1);
            due("handler to " + p, new Loom().handler(5, p, 1, 5), place ? 1 : -1);
            due("handler at " + p, new Loom().handler(5, 5, 1, p), place ? 1 : -1);
        }
        for (int mask : new int[] {MIN, -1, 0, 1, 1 << 23, 1 << 24, MAX}) due("handler: any mask", new Loom().handler(0, 199, mask, 199), 1);
        Loom x = new Loom();
        for (int k = 1; k <= 15; k++) due("handler: how many there are", x.handler(k, 199 - k, k, k), k);
        due("handler: 15", x.state(1), 15);
        due("handler: the 16th", x.handler(0, 0, 0, 0), 16);
        due("handler: the 17th", x.handler(0, 0, 0, 0), -2);
        due("handler: the 17th again", x.handler(0, 199, -1, 199), -2);
        due("handler: a wrong from ahead of full", x.handler(-1, 0, 0, 0), -1);
        due("handler: a wrong to ahead of full", x.handler(0, 200, 0, 0), -1);
        due("handler: a wrong at ahead of full", x.handler(0, 0, 0, 200), -1);
        due("handler: there are 16", x.state(1), 16);
        due("handler: steps are counted apart", x.put(0, 0, 0, 0), 1);
        due("handler: cleared", x.clear(), 1);
        due("handler: room again", x.handler(0, 0, 0, 0), 1);
    }

    /** "at most 16": the 16th handles, a 17th that was refused does not. */
    private static void theLastHandler() {
        Loom x = loom(s(7, 0, 0, 0), s(0));
        for (int k = 1; k <= 15; k++) x.handler(1, 199, -1, 1);
        x.handler(0, 1, 1 << ZERO, 1);
        x.start();
        due("handler: the 16th handles", x.step(2), 1);
        x = loom(s(7, 0, 0, 0), s(0));
        for (int k = 1; k <= 16; k++) x.handler(1, 199, -1, 1);
        due("handler: the 17th", x.handler(0, 1, -1, 1), -2);
        x.start();
        due("handler: the 17th does not", x.step(2), 2);
    }

    /** "(Nothing is done then.) There is no run any more, registers stay." */
    private static void handlerAndTheRun() {
        for (int state = 1; state <= 3; state++) {
            Loom x = busy(state);
            long[] before = seen(x);
            for (int p : new int[] {MIN, -1, 200, MAX}) {
                due("handler that is refused: from", x.handler(p, 0, -1, 0), -1);
                due("handler that is refused: to", x.handler(0, p, -1, 0), -1);
                due("handler that is refused: at", x.handler(0, 199, -1, p), -1);
            }
            sameBut("handler that is refused: nothing is done, state " + state, before, seen(x));
            due("handler that is refused: the run goes on", x.step(1), state - 1);
            x = busy(state);
            before = seen(x);
            due("handler", x.handler(0, 0, 0, 0), 1);
            sameBut("handler: registers stay", before, seen(x), "state 1", "state 10");
            due("handler: no run any more", x.state(10), 0);
            due("handler: no run to step", x.step(0), -1);
        }
        Loom x = loom(s(1, 1, 5), s(27, 1));
        for (int k = 0; k < 16; k++) x.handler(0, 0, 0, 0);
        x.start();
        x.step(1);
        long[] before = seen(x);
        due("handler beyond 16", x.handler(0, 199, -1, 1), -2);
        sameBut("handler beyond 16: nothing is done", before, seen(x));
        due("handler beyond 16: the run goes on", x.step(1), 0);
    }

    /** "No steps, no handlers; there is no run any more, registers stay: how many steps there were." */
    private static void clear() {
        for (int steps : new int[] {0, 1, 2, 149, 150}) {
            Loom x = loom(times(steps, 1, 1, 1));
            for (int k = 0; k < 16; k++) x.handler(0, 199, -1, 0);
            due("clear: how many steps there were", x.clear(), steps);
            due("clear: no steps", x.state(0), 0);
            due("clear: no handlers", x.state(1), 0);
            due("clear: again", x.clear(), 0);
            due("clear: nothing to do", x.start(), false);
            for (int k = 1; k <= 150; k++) x.put(0, 0, 0, 0);
            due("clear: room for 150", x.state(0), 150);
            due("clear: and no more", x.put(0, 0, 0, 0), -2);
            for (int k = 1; k <= 16; k++) due("clear: room for 16", x.handler(0, 0, 0, 0), k);
        }
        for (int state = 1; state <= 3; state++) {
            Loom x = busy(state);
            long[] before = seen(x);
            due("clear: of a run", x.clear(), 16);
            sameBut("clear: registers stay", before, seen(x), "state 0", "state 10");
            due("clear: no run any more", x.state(10), 0);
            due("clear: no run to step", x.step(1), -1);
        }
        Loom x = loom(s(7, 0, 0, 0), s(0));
        x.handler(0, 1, -1, 1);
        x.clear();
        x.put(7, 0, 0, 0);
        x.put(0, 0, 0, 0);
        x.start();
        due("clear: no handler is left", x.step(2), 2);
    }

    /** "whether there is a step (else it has ended at once)" */
    private static void startOfNoStep() {
        Loom x = new Loom();
        due("start: no step", x.start(), false);
        due("start: it has ended at once", x.state(10), 2);
        due("start: where", x.state(2), 0);
        due("start: step 0", x.step(0), 1);
        due("start: step 100", x.step(100), 1);
        due("start: no step is done", x.state(3), 0);
        x.put(1, 0, 1, 0);
        due("start: one step", x.start(), true);
        due("start: there is more", x.state(10), 1);
        due("start: there is more, step 0", x.step(0), 0);
        due("start: no step is done yet", x.state(3), 0);
        due("start: its step", x.step(1), 1);
        x.clear();
        due("start: no step again", x.start(), false);
        due("start: registers are 0 then, too", x.word(0), 0);
        due("start: no step of the run before", x.state(3), 0);
    }

    /** "A run begins; all registers are 0 or NOTHING, nothing was made or told" */
    private static void startAgain() {
        int[][] all = new int[0][];
        for (int r = 0; r < 8; r++) all = with(all, s(1, r, r + 1), s(33, r, 11, r));
        for (int r = 0; r < 4; r++) all = with(all, s(2, r, r, 1), s(15, r, r), s(16, r, r));
        all = with(all, s(73, 1), s(29, all.length + 2), s(38, 0, 0));
        Loom x = loom(all);
        for (int again = 0; again < 3; again++) {
            due("start: there are steps", x.start(), true);
            for (int r = 0; r < 8; r++) due("start: W" + r, x.word(r), 0);
            for (int r = 0; r < 8; r++) due("start: T" + r, x.kind(r), -1);
            for (int r = 0; r < 4; r++) due("start: L" + r, x.wide(r), 0);
            for (int r = 0; r < 4; r++) due("start: F" + r, x.single(r), 0.0);
            for (int r = 0; r < 4; r++) due("start: D" + r, x.real(r), 0.0);
            for (int i = 0; i < 3; i++) due("start: nothing was told", x.told(i), 0);
            int[] begun = {all.length, 0, 0, 0, 0, 0, 0, 0, 0, -1, 1};
            for (int what = 0; what < 11; what++) due("start: state " + what, x.state(what), begun[what]);
            due("start: it stops", run(x), 2);
            int[] stopped = {all.length, 0, all.length - 1, all.length, 0, 8, 1, 1, CAST, all.length - 1, 3};
            for (int what = 0; what < 11; what++) due("start: state " + what + " when it has stopped", x.state(what), stopped[what]);
            due("start: W7 of this run", x.word(7), 8);
        }
    }

    /** A run that is left in its midst leaves no CALL, no thing and no handled failure to the next. */
    private static void startInTheMidst() {
        Loom x = loom(s(72, 6), s(69, 6), s(67, 5, 6, 6), s(29, 3), s(33, 7, 14, 0), s(27, 4), s(68, 5), s(27, 7));
        x.handler(3, 4, 1 << ROOM, 4);
        x.handler(4, 5, 1 << ROOM, 6);
        x.handler(6, 7, 1 << 8, 7);
        for (int again = 0; again < 3; again++) {
            due("start: there are steps", x.start(), true);
            due("start: no failure was handled", after(x, 1).word(6), 0);
            due("start: no fault was handled", after(x, 1).kind(6), -1);
            after(x, 1 + 12);
            due("start: 12 CALLs", x.state(4), 12);
            due("start: no failure by the 12th", x.state(7), 0);
            after(x, 1 + 2 * 59);
            due("start: 60 things", x.state(5), 60);
            due("start: no second failure by the 60th", x.state(7), 1);
            after(x, 2);
            due("start: a fault was handled", x.state(8), 8);
            due("start: the third failure", x.state(7), 3);
        }
    }

    private static final int[][] READY = {s(1, 1, 1), s(1, 2, 2), s(1, 3, 3), s(1, 4, 4), s(1, 5, 5), s(1, 6, 77), s(1, 7, 6),
        s(2, 0, 3, 4), s(15, 0, 0), s(16, 0, 0), s(33, 0, 13, 6)};

    /** Steps that fill the thing in T2, of that kind, with what READY has: each of its six places, or all parts. */
    private static int[][] fill(int kind) {
        if (kind == 14) return new int[0][];
        if (kind >= 11) return new int[][] {s(60, 6, 2), s(62, 0, 2), s(64, 0, 2)};
        int op = kind == 9 ? 57 : kind == 10 ? 58 : 49 + kind;
        int[][] all = new int[6][];
        for (int i = 0; i < 6; i++) all[i] = s(op, kind <= 4 ? 6 : kind == 10 ? 7 : 0, 2, i);
        return all;
    }

    /** "nothing was made": a thing of a new run has nothing of one of the run before. */
    private static void startMakesNewThings() {
        for (int first = 0; first <= 14; first++) {
            for (int second = 0; second <= 14; second++) {
                Loom x = ran(with(with(READY, make(2, first)), fill(first)));
                x.clear();
                for (int[] p : new int[][] {s(1, 7, 6), make(2, second), make(3, second)}) x.put(p[0], p[1], p[2], p[3]);
                x.start();
                due("start: new things", run(x), 1);
                for (int r = 2; r <= 3; r++) looksNew("start: " + second + " behind " + first, x, r, second);
            }
        }
    }

    private static void looksNew(String what, Loom x, int r, int kind) {
        due(what + ": its kind", x.kind(r), kind);
        due(what + ": its size", x.size(r), kind <= 10 ? 6 : -1);
        for (int i = 0; i < 6; i++) {
            due(what + ": its numbers", x.cell(r, i), kind == 10 ? 6 : kind == 8 || kind == 9 ? -1 : 0);
            due(what + ": its points", x.point(r, i), 0.0);
        }
        due(what + ": its TAG", x.field(r, 0), kind >= 11 ? 6 : 0);
        due(what + ": its WEIGHT", x.field(r, 1), 0);
        due(what + ": its NEXT", x.field(r, 2), kind >= 11 && kind <= 13 ? -1 : 0);
    }

    /** "n steps at most are done: 0 there is more, 1 it has ended, 2 it has stopped." */
    private static void stepAnswers() {
        for (int steps : new int[] {1, 2, 99, 100, 101, 149, 150}) {
            for (int n : new int[] {0, 1, 2, 99, 100}) {
                Loom x = started(times(steps, 1, 1, 1));
                due("step " + n + " of " + steps, x.step(n), n >= steps ? 1 : 0);
                due("step " + n + " of " + steps + ": done", x.state(3), Math.min(n, steps));
                due("step " + n + " of " + steps + ": where", x.state(2), Math.min(n, steps));
                due("step " + n + " of " + steps + ": state", x.state(10), n >= steps ? 2 : 1);
            }
        }
        for (int before : new int[] {0, 1, 98, 99}) {
            for (int n : new int[] {before, before + 1, 100}) {
                for (int last = 0; last < 3; last++) {
                    int[] end = last == 0 ? s(0) : last == 1 ? s(30) : s(8, 1, 1, 2);
                    Loom x = started(with(times(before, 1, 1, 1), end, s(1, 3, 3)));
                    due("step " + n + ": the last is at " + before, x.step(n), n > before ? last == 2 ? 2 : 1 : 0);
                    due("step " + n + ": done", x.state(3), Math.min(n, before + 1));
                    due("step " + n + ": where", x.state(2), before);
                    due("step " + n + ": nothing behind it is done", x.word(3), 0);
                }
            }
        }
    }

    /** "-1: there is no run; else -2: n is not 0 .. 100." */
    private static void stepRefused() {
        for (int n : new int[] {MIN, -101, -100, -2, -1, 101, 102, 1000, MAX}) {
            due("step " + n + ": no run", new Loom().step(n), -1);
            for (int state = 1; state <= 3; state++) {
                Loom x = busy(state);
                long[] before = seen(x);
                due("step " + n, x.step(n), -2);
                sameBut("step " + n + ": nothing is done", before, seen(x));
            }
            Loom x = busy(1);
            x.clear();
            due("step " + n + ": no run any more", x.step(n), -1);
            x.start();
            due("step " + n + ": it has ended at once", x.step(n), -2);
        }
        for (int n : new int[] {0, 1, 99, 100}) {
            due("step " + n + ": no run", new Loom().step(n), -1);
            Loom x = started(s(27, 0));
            due("step " + n, x.step(n), 0);
            due("step " + n + ": done", x.state(3), n);
        }
    }

    /** Behind its end a run does nothing more, however often step is called. */
    private static void stepBehindTheEnd() {
        for (int state = 2; state <= 3; state++) {
            Loom x = busy(state);
            long[] before = seen(x);
            for (int n : new int[] {0, 1, 100}) due("step " + n + " behind the end", x.step(n), state - 1);
            sameBut("step behind the end: nothing is done", before, seen(x));
            due("step behind the end: it can start again", x.start(), true);
            due("step behind the end: there is more", x.state(10), 1);
        }
    }

    public static void main(String[] args) {
        aNewObject();
        putOperations();
        putOperands();
        operandsThatAreNotNamed();
        putIsFull();
        putThatIsRefused();
        putEndsTheRun();
        handlerPlaces();
        theLastHandler();
        handlerAndTheRun();
        clear();
        startOfNoStep();
        startAgain();
        startInTheMidst();
        startMakesNewThings();
        stepAnswers();
        stepRefused();
        stepBehindTheEnd();
        finish();
    }
}
