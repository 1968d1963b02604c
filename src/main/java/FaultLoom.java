import java.util.Arrays;

/** A loom: a small machine with words, longs, singles, doubles and things that may be missing. */
public final class FaultLoom {
    private static final int STEP_LIMIT = 150;
    private static final int HANDLER_LIMIT = 16;
    private static final int PLACE_LIMIT = 200;
    private static final int CALL_LIMIT = 12;
    private static final int THING_LIMIT = 60;
    private static final int ROW_LIMIT = 12;
    private static final int GRID_LIMIT = 6;
    private static final int TOLD_LIMIT = 200;
    private static final int STEPS_AT_ONCE = 100;

    private static final int WORD_REGISTERS = 8;
    private static final int LONG_REGISTERS = 4;
    private static final int SINGLE_REGISTERS = 4;
    private static final int DOUBLE_REGISTERS = 4;
    private static final int THING_REGISTERS = 8;

    private static final int WORDS = 4;
    private static final int LONGS = 5;
    private static final int SINGLES = 6;
    private static final int DOUBLES = 7;
    private static final int KNOTS = 8;
    private static final int RINGS = 9;
    private static final int GRID = 10;
    private static final int KNOT = 11;
    private static final int RING = 12;
    private static final int BOW = 13;
    private static final int SLIP = 14;
    private static final int FAULT = 15;
    private static final int OPS = 16;

    private static final int NO_FAILURE = 0;
    private static final int MISSING = 1;
    private static final int INDEX = 2;
    private static final int SIZE = 3;
    private static final int CAST = 4;
    private static final int STORE = 5;
    private static final int ZERO = 6;
    private static final int ROOM = 7;
    private static final int FIRST_FAULT_NUMBER = 8;

    private static final int NO_RUN = 0;
    private static final int MORE = 1;
    private static final int ENDED = 2;
    private static final int STOPPED = 3;

    private static final int NOWHERE = -1;
    private static final int WRONG = -1;
    private static final int FULL = -2;

    private static final int LAST_OPERATION = 73;

    // What a, b and c of each operation name: W, L, F, D, T a register, P a place,
    // R a kind of row, N a kind of knot or a slip, K any kind, '-' nothing that could be wrong.
    private static final char[] OPERANDS = {
        '-', '-', '-', 'W', '-', '-', 'L', '-', '-', 'W', 'W', '-', // 0 .. 3
        'W', 'W', 'W', 'W', 'W', 'W', 'W', 'W', 'W', // 4 .. 6
        'W', 'W', 'W', 'W', 'W', 'W', // 7, 8
        'L', 'L', 'L', 'L', 'L', 'L', 'L', 'L', 'L', 'L', 'L', 'L', // 9 .. 12
        'L', 'W', '-', 'W', 'L', '-', 'F', 'L', '-', 'D', 'L', '-', // 13 .. 16
        'L', 'F', '-', 'W', 'D', '-', 'D', 'F', '-', 'F', 'D', '-', // 17 .. 20
        'F', 'F', '-', 'D', 'D', '-', 'F', 'F', 'F', 'D', 'D', 'D', // 21 .. 24
        'W', 'W', 'W', 'W', 'D', 'D', // 25, 26
        'P', '-', '-', 'W', 'P', '-', 'P', '-', '-', '-', '-', '-', // 27 .. 30
        'T', 'R', 'W', 'T', 'W', 'W', 'T', 'N', 'W', // 31 .. 33
        'T', 'T', '-', 'T', '-', '-', // 34, 35
        'W', 'T', 'T', 'W', 'T', 'K', 'W', 'T', '-', // 36 .. 38
        'W', 'T', 'W', 'W', 'T', 'W', 'W', 'T', 'W', 'W', 'T', 'W', 'W', 'T', 'W', // 39 .. 43
        'L', 'T', 'W', 'F', 'T', 'W', 'D', 'T', 'W', 'T', 'T', 'W', 'T', 'T', 'W', // 44 .. 48
        'W', 'T', 'W', 'W', 'T', 'W', 'W', 'T', 'W', 'W', 'T', 'W', 'W', 'T', 'W', // 49 .. 53
        'L', 'T', 'W', 'F', 'T', 'W', 'D', 'T', 'W', 'T', 'T', 'W', 'T', 'T', 'W', // 54 .. 58
        'W', 'T', '-', 'W', 'T', '-', 'L', 'T', '-', 'L', 'T', '-', // 59 .. 62
        'T', 'T', '-', 'T', 'T', '-', 'W', 'T', 'W', 'W', 'T', 'W', // 63 .. 66
        'T', 'W', 'T', 'T', '-', '-', 'T', '-', '-', // 67 .. 69
        'W', 'T', '-', 'T', 'T', '-', 'W', '-', '-', 'W', '-', '-', // 70 .. 73
    };

    private final Program program;
    private final Registers registers;
    private final Shelf shelf;
    private final Run run;
    private final Machine machine;

    public FaultLoom() {
        program = new Program();
        registers = new Registers();
        shelf = new Shelf();
        run = new Run();
        machine = new Machine(program, registers, shelf, run);
    }

    public int put(int op, int a, int b, int c) {
        if (!Program.isOperation(op, a, b, c)) {
            return WRONG;
        }
        if (!program.addStep(op, a, b, c)) {
            return FULL;
        }
        run.status = NO_RUN;
        return program.steps;
    }

    public int handler(int from, int to, int mask, int at) {
        if (!within(from, PLACE_LIMIT) || !within(to, PLACE_LIMIT) || !within(at, PLACE_LIMIT)) {
            return WRONG;
        }
        if (!program.addHandler(from, to, mask, at)) {
            return FULL;
        }
        run.status = NO_RUN;
        return program.handlers;
    }

    public int clear() {
        int steps = program.steps;
        program.steps = 0;
        program.handlers = 0;
        run.status = NO_RUN;
        return steps;
    }

    public boolean start() {
        registers.wipe();
        shelf.made = 0;
        run.begin();
        run.goOn(0, program.steps);
        return program.steps > 0;
    }

    public int step(int n) {
        if (run.status == NO_RUN) {
            return -1;
        }
        if (n < 0 || n > STEPS_AT_ONCE) {
            return -2;
        }
        for (int k = 0; k < n && run.status == MORE; k++) {
            machine.doNext();
        }
        return run.status == MORE ? 0 : run.status == ENDED ? 1 : 2;
    }

    public int word(int r) {
        return within(r, WORD_REGISTERS) ? registers.words[r] : 0;
    }

    public long wide(int r) {
        return within(r, LONG_REGISTERS) ? registers.longs[r] : 0;
    }

    public double single(int r) {
        return within(r, SINGLE_REGISTERS) ? registers.singles[r] : 0;
    }

    public double real(int r) {
        return within(r, DOUBLE_REGISTERS) ? registers.doubles[r] : 0;
    }

    public int kind(int r) {
        return within(r, THING_REGISTERS) ? kindOf(registers.things[r]) : -2;
    }

    public int size(int r) {
        Thing thing = registers.thingAt(r);
        return isRow(thing) ? thing.places : -1;
    }

    public long cell(int r, int i) {
        Thing row = registers.thingAt(r);
        if (!isRow(row) || !within(i, row.places)) {
            return 0;
        }
        if (row.kind <= LONGS) {
            return row.numbers[i];
        }
        if (row.kind == KNOTS || row.kind == RINGS) {
            return kindOf(row.things[i]);
        }
        if (row.kind == GRID) {
            Thing inner = row.things[i];
            return inner == null ? -1 : inner.places;
        }
        return 0;
    }

    public double point(int r, int i) {
        Thing row = registers.thingAt(r);
        if (row == null || (row.kind != SINGLES && row.kind != DOUBLES) || !within(i, row.places)) {
            return 0;
        }
        return row.points[i];
    }

    public long field(int r, int what) {
        Thing thing = registers.thingAt(r);
        if (thing == null) {
            return 0;
        }
        boolean knot = isOfKind(thing, KNOT);
        boolean fault = thing.kind == FAULT;
        if (what == 0 && (isOfKind(thing, OPS) || fault)) {
            return thing.tag;
        }
        if (what == 1 && knot) {
            return thing.weight;
        }
        if (what == 2 && (knot || fault)) {
            return kindOf(thing.link);
        }
        return 0;
    }

    public boolean same(int r, int q) {
        Thing thing = registers.thingAt(r);
        return thing != null && thing == registers.thingAt(q);
    }

    public int told(int i) {
        return within(i, TOLD_LIMIT) && i < run.toldCount ? run.numbersTold[i] : 0;
    }

    public int state(int what) {
        switch (what) {
            case 0: return program.steps;
            case 1: return program.handlers;
            case 2: return run.place;
            case 3: return run.stepsDone;
            case 4: return run.callsOpen;
            case 5: return shelf.made;
            case 6: return run.toldCount;
            case 7: return run.failures;
            case 8: return run.failure;
            case 9: return run.failurePlace;
            case 10: return run.status;
            default: return -1;
        }
    }

    private static boolean within(int number, int limit) {
        return number >= 0 && number < limit;
    }

    private static int kindOf(Thing thing) {
        return thing == null ? -1 : thing.kind;
    }

    private static boolean isRow(Thing thing) {
        return thing != null && thing.kind <= GRID;
    }

    private static boolean isOfKind(Thing thing, int wanted) {
        if (thing == null) {
            return false;
        }
        int own = thing.kind;
        switch (wanted) {
            case KNOTS: return own == KNOTS || own == RINGS;
            case KNOT: return own == KNOT || own == RING || own == BOW;
            case RING: return own == RING || own == BOW;
            case OPS: return own == KNOT || own == RING || own == BOW || own == SLIP;
            default: return own == wanted;
        }
    }

    /** CAST is for things alone: NOTHING never has the wrong kind. */
    private static boolean hasWrongKind(Thing thing, int wanted) {
        return thing != null && !isOfKind(thing, wanted);
    }

    /** The steps and the handlers; what they name has been tested before they are kept. */
    private static final class Program {
        final int[] ops = new int[STEP_LIMIT];
        final int[] as = new int[STEP_LIMIT];
        final int[] bs = new int[STEP_LIMIT];
        final int[] cs = new int[STEP_LIMIT];
        int steps;

        final int[] froms = new int[HANDLER_LIMIT];
        final int[] tos = new int[HANDLER_LIMIT];
        final int[] masks = new int[HANDLER_LIMIT];
        final int[] ats = new int[HANDLER_LIMIT];
        int handlers;

        static boolean isOperation(int op, int a, int b, int c) {
            return op >= 0 && op <= LAST_OPERATION
                && isNamed(OPERANDS[3 * op], a)
                && isNamed(OPERANDS[3 * op + 1], b)
                && isNamed(OPERANDS[3 * op + 2], c);
        }

        static boolean isNamed(char sort, int number) {
            switch (sort) {
                case 'W': return within(number, WORD_REGISTERS);
                case 'L': return within(number, LONG_REGISTERS);
                case 'F': return within(number, SINGLE_REGISTERS);
                case 'D': return within(number, DOUBLE_REGISTERS);
                case 'T': return within(number, THING_REGISTERS);
                case 'P': return within(number, PLACE_LIMIT);
                case 'R': return number >= 0 && number <= RINGS;
                case 'N': return number >= KNOT && number <= SLIP;
                case 'K': return number >= 0 && number <= OPS;
                default: return true;
            }
        }

        boolean addStep(int op, int a, int b, int c) {
            if (steps >= STEP_LIMIT) {
                return false;
            }
            ops[steps] = op;
            as[steps] = a;
            bs[steps] = b;
            cs[steps] = c;
            steps++;
            return true;
        }

        boolean addHandler(int from, int to, int mask, int at) {
            if (handlers >= HANDLER_LIMIT) {
                return false;
            }
            froms[handlers] = from;
            tos[handlers] = to;
            masks[handlers] = mask;
            ats[handlers] = at;
            handlers++;
            return true;
        }

        int handlingPlace(int place, int failure) {
            for (int h = 0; h < handlers; h++) {
                if (place >= froms[h] && place < tos[h] && ((masks[h] >>> failure) & 1) == 1) {
                    return ats[h];
                }
            }
            return NOWHERE;
        }
    }

    private static final class Registers {
        final int[] words = new int[WORD_REGISTERS];
        final long[] longs = new long[LONG_REGISTERS];
        final float[] singles = new float[SINGLE_REGISTERS];
        final double[] doubles = new double[DOUBLE_REGISTERS];
        final Thing[] things = new Thing[THING_REGISTERS];

        void wipe() {
            Arrays.fill(words, 0);
            Arrays.fill(longs, 0L);
            Arrays.fill(singles, 0f);
            Arrays.fill(doubles, 0d);
            for (int r = 0; r < THING_REGISTERS; r++) {
                things[r] = null;
            }
        }

        Thing thingAt(int r) {
            return within(r, THING_REGISTERS) ? things[r] : null;
        }
    }

    /** One class for all kinds, so that a thing of an earlier run can be used again as any other. */
    private static final class Thing {
        int kind;
        int places;
        int tag; // a fault's NUMBER, too
        long weight;
        Thing link; // a knot's NEXT, a fault's CAUSE
        final long[] numbers = new long[ROW_LIMIT];
        final double[] points = new double[ROW_LIMIT];
        final Thing[] things = new Thing[ROW_LIMIT];

        void reset(int newKind) {
            kind = newKind;
            places = 0;
            tag = 0;
            weight = 0;
            link = null;
            if (newKind > GRID) {
                return;
            }
            for (int i = 0; i < ROW_LIMIT; i++) {
                numbers[i] = 0;
                points[i] = 0;
                things[i] = null;
            }
        }

        int turn(int x) {
            if (kind == SLIP) {
                return tag * x;
            }
            int sum = x + tag;
            return kind == BOW ? 2 * sum + 1 : sum;
        }
    }

    /**
     * The things of a run. A new run takes the things of the one before again: start leaves no
     * register that could still show them.
     */
    private static final class Shelf {
        final Thing[] things = new Thing[THING_LIMIT];
        int made;

        boolean hasRoom(int more) {
            return made + more <= THING_LIMIT;
        }

        /** Only behind hasRoom. */
        Thing take(int kind) {
            if (things[made] == null) {
                things[made] = new Thing();
            }
            Thing thing = things[made];
            thing.reset(kind);
            made++;
            return thing;
        }
    }

    /** Where a run is, and what it has come by. */
    private static final class Run {
        int status;
        int place;
        int stepsDone;

        final int[] callPlaces = new int[CALL_LIMIT];
        int callsOpen;

        final int[] numbersTold = new int[TOLD_LIMIT];
        int toldCount;

        int failures;
        int failure;
        int failurePlace = NOWHERE;

        int handledFailure;
        Thing handledFault;

        void begin() {
            stepsDone = 0;
            callsOpen = 0;
            toldCount = 0;
            failures = 0;
            failure = NO_FAILURE;
            failurePlace = NOWHERE;
            handledFailure = NO_FAILURE;
            handledFault = null;
        }

        void goOn(int newPlace, int steps) {
            place = newPlace;
            status = newPlace < steps ? MORE : ENDED;
        }

        void tell(int number) {
            if (toldCount < TOLD_LIMIT) {
                numbersTold[toldCount] = number;
            }
            toldCount++;
        }

        void noteFailure(int number) {
            failures++;
            failure = number;
            failurePlace = place;
        }
    }

    /** Does the steps: it works them itself (jumps, faults) or hands them to those below. */
    private static final class Machine {
        final Program program;
        final Registers registers;
        final Shelf shelf;
        final Run run;
        final NumberWork numberWork;
        final ThingWork thingWork;
        int nextPlace;

        Machine(Program program, Registers registers, Shelf shelf, Run run) {
            this.program = program;
            this.registers = registers;
            this.shelf = shelf;
            this.run = run;
            numberWork = new NumberWork(registers);
            thingWork = new ThingWork(registers, shelf);
        }

        void doNext() {
            int place = run.place;
            if (!within(place, program.steps)) {
                return;
            }
            nextPlace = place + 1;
            run.stepsDone++;
            int a = program.as[place];
            int failure = perform(program.ops[place], a, program.bs[place], program.cs[place]);
            if (failure != NO_FAILURE) {
                // Only THROW fails with such a number, and then its fault is in Ta.
                fail(failure, failure >= FIRST_FAULT_NUMBER ? registers.things[a] : null);
            } else if (run.status == MORE) {
                run.goOn(nextPlace, program.steps);
            }
        }

        void fail(int failure, Thing fault) {
            run.noteFailure(failure);
            int at = program.handlingPlace(run.place, failure);
            while (at == NOWHERE && run.callsOpen > 0) {
                run.callsOpen--;
                at = program.handlingPlace(run.callPlaces[run.callsOpen], failure);
            }
            if (at == NOWHERE) {
                run.status = STOPPED;
                return;
            }
            run.handledFailure = failure;
            run.handledFault = fault;
            run.goOn(at, program.steps);
        }

        int perform(int op, int a, int b, int c) {
            if (op == 0 || (op >= 27 && op <= 30)) {
                return go(op, a, b);
            }
            if (op <= 26) {
                return numberWork.perform(op, a, b, c);
            }
            if (op <= 35) {
                return thingWork.make(op, a, b, c);
            }
            if (op <= 38) {
                return thingWork.ask(op, a, b, c);
            }
            if (op <= 48) {
                return thingWork.getFromRow(op, a, registers.things[b], registers.words[c]);
            }
            if (op <= 58) {
                return thingWork.putIntoRow(op, a, registers.things[b], registers.words[c]);
            }
            if (op <= 66) {
                return thingWork.workKnot(op, a, registers.things[b], c);
            }
            return workFaults(op, a, b, c);
        }

        int go(int op, int a, int b) {
            switch (op) {
                case 0: run.status = ENDED; break;
                case 27: nextPlace = a; break;
                case 28: nextPlace = registers.words[a] == 0 ? b : nextPlace; break;
                case 29: return callTo(a);
                default: goBack(); break;
            }
            return NO_FAILURE;
        }

        int callTo(int target) {
            if (run.callsOpen >= CALL_LIMIT) {
                return ROOM;
            }
            run.callPlaces[run.callsOpen] = run.place;
            run.callsOpen++;
            nextPlace = target;
            return NO_FAILURE;
        }

        void goBack() {
            if (run.callsOpen == 0) {
                run.status = ENDED;
                return;
            }
            run.callsOpen--;
            nextPlace = run.callPlaces[run.callsOpen] + 1;
        }

        int workFaults(int op, int a, int b, int c) {
            switch (op) {
                case 67: return makeFault(a, b, c);
                case 68: return throwFault(registers.things[a]);
                case 69: registers.things[a] = run.handledFault; break;
                case 70: return readNumber(a, registers.things[b]);
                case 71: return readCause(a, registers.things[b]);
                case 72: registers.words[a] = run.handledFailure; break;
                default: run.tell(registers.words[a]); break;
            }
            return NO_FAILURE;
        }

        int makeFault(int a, int b, int c) {
            Thing cause = registers.things[c];
            if (hasWrongKind(cause, FAULT)) {
                return CAST;
            }
            if (!shelf.hasRoom(1)) {
                return ROOM;
            }
            Thing fault = shelf.take(FAULT);
            fault.tag = FIRST_FAULT_NUMBER + (registers.words[b] & 15);
            fault.link = cause;
            registers.things[a] = fault;
            return NO_FAILURE;
        }

        static int throwFault(Thing fault) {
            if (fault == null) {
                return MISSING;
            }
            return fault.kind == FAULT ? fault.tag : CAST;
        }

        int readNumber(int a, Thing fault) {
            if (fault == null) {
                return MISSING;
            }
            if (fault.kind != FAULT) {
                return CAST;
            }
            registers.words[a] = fault.tag;
            return NO_FAILURE;
        }

        int readCause(int a, Thing fault) {
            if (fault == null) {
                return MISSING;
            }
            if (fault.kind != FAULT) {
                return CAST;
            }
            registers.things[a] = fault.link;
            return NO_FAILURE;
        }
    }

    /** The operations 1 to 26. */
    private static final class NumberWork {
        // From the smallest double to the largest that a long gives are 1137 doublings.
        private static final int DOUBLINGS = 1200;

        final int[] words;
        final long[] longs;
        final float[] singles;
        final double[] doubles;

        NumberWork(Registers registers) {
            words = registers.words;
            longs = registers.longs;
            singles = registers.singles;
            doubles = registers.doubles;
        }

        int perform(int op, int a, int b, int c) {
            if (dividesByZero(op, c)) {
                return ZERO;
            }
            if (op <= 12) {
                workWhole(op, a, b, c);
            } else if (op <= 20) {
                convert(op, a, b);
            } else {
                workBroken(op, a, b, c);
            }
            return NO_FAILURE;
        }

        boolean dividesByZero(int op, int c) {
            switch (op) {
                case 7:
                case 8: return words[c] == 0;
                case 11:
                case 12: return longs[c] == 0;
                case 23: return singles[c] == 0;
                case 24: return doubles[c] == 0;
                default: return false;
            }
        }

        void workWhole(int op, int a, int b, int c) {
            switch (op) {
                case 1: words[a] = b; break;
                case 2: longs[a] = ((long) b << 32) + (c & 0xFFFFFFFFL); break;
                case 3: words[a] = words[b]; break;
                case 4: words[a] = words[b] + words[c]; break;
                case 5: words[a] = words[b] - words[c]; break;
                case 6: words[a] = words[b] * words[c]; break;
                case 7: words[a] = words[b] / words[c]; break;
                case 8: words[a] = words[b] % words[c]; break;
                case 9: longs[a] = longs[b] + longs[c]; break;
                case 10: longs[a] = longs[b] * longs[c]; break;
                case 11: longs[a] = longs[b] / longs[c]; break;
                default: longs[a] = longs[b] % longs[c]; break;
            }
        }

        void convert(int op, int a, int b) {
            switch (op) {
                case 13: longs[a] = words[b]; break;
                case 14: words[a] = (int) longs[b]; break;
                case 15: singles[a] = (float) longs[b]; break;
                case 16: doubles[a] = (double) longs[b]; break;
                case 17: longs[a] = (long) singles[b]; break;
                case 18: words[a] = (int) doubles[b]; break;
                case 19: doubles[a] = singles[b]; break;
                default: singles[a] = (float) doubles[b]; break;
            }
        }

        void workBroken(int op, int a, int b, int c) {
            switch (op) {
                case 21: singles[a] = singles[b] / 2; break;
                case 22: doubles[a] = doubles[b] / 2; break;
                // What is left of singles is a single, so this cast rounds nothing.
                case 23: singles[a] = (float) whatIsLeft(singles[b], singles[c]); break;
                case 24: doubles[a] = whatIsLeft(doubles[b], doubles[c]); break;
                case 25: words[a] = words[b] < words[c] ? 1 : 0; break;
                default: words[a] = doubles[b] < doubles[c] ? 1 : 0; break;
            }
        }

        /**
         * x less as many y as go in it. Nothing rounds here: y is doubled, halved back again, and
         * taken only from a rest that is less than its double. A rest of 0 keeps the sign of x.
         */
        static double whatIsLeft(double x, double y) {
            double rest = x < 0 ? -x : x;
            double unit = y < 0 ? -y : y;
            if (rest < unit) {
                return x;
            }
            double part = unit;
            int doublings = 0;
            while (doublings < DOUBLINGS && part + part <= rest) {
                part = part + part;
                doublings++;
            }
            for (int k = doublings; k >= 0 && rest >= unit; k--) {
                if (rest >= part) {
                    rest = rest - part;
                }
                part = part / 2;
            }
            return x < 0 ? -rest : rest;
        }
    }

    /** The operations 31 to 66. */
    private static final class ThingWork {
        final Registers registers;
        final int[] words;
        final Thing[] things;
        final Shelf shelf;

        ThingWork(Registers registers, Shelf shelf) {
            this.registers = registers;
            this.shelf = shelf;
            words = registers.words;
            things = registers.things;
        }

        int make(int op, int a, int b, int c) {
            switch (op) {
                case 31: return makeRow(a, b, words[c]);
                case 32: return makeGrid(a, words[b], words[c]);
                case 33: return makeTagged(a, b, words[c]);
                case 34: things[a] = things[b]; break;
                default: things[a] = null; break;
            }
            return NO_FAILURE;
        }

        int makeRow(int a, int kind, int places) {
            if (places > ROW_LIMIT) {
                return ROOM;
            }
            if (places < 0) {
                return SIZE;
            }
            if (!shelf.hasRoom(1)) {
                return ROOM;
            }
            things[a] = shelf.take(kind);
            things[a].places = places;
            return NO_FAILURE;
        }

        int makeGrid(int a, int rows, int places) {
            if (rows > GRID_LIMIT || places > GRID_LIMIT) {
                return ROOM;
            }
            if (rows < 0 || places < 0) {
                return SIZE;
            }
            if (!shelf.hasRoom(1 + rows)) {
                return ROOM;
            }
            Thing grid = shelf.take(GRID);
            grid.places = rows;
            for (int i = 0; i < rows; i++) {
                grid.things[i] = shelf.take(WORDS);
                grid.things[i].places = places;
            }
            things[a] = grid;
            return NO_FAILURE;
        }

        int makeTagged(int a, int kind, int tag) {
            if (!shelf.hasRoom(1)) {
                return ROOM;
            }
            things[a] = shelf.take(kind);
            things[a].tag = tag;
            return NO_FAILURE;
        }

        int ask(int op, int a, int b, int c) {
            switch (op) {
                case 36: words[a] = things[b] == things[c] ? 1 : 0; break;
                case 37: words[a] = isOfKind(things[b], c) ? 1 : 0; break;
                default: return countPlaces(a, things[b]);
            }
            return NO_FAILURE;
        }

        int countPlaces(int a, Thing row) {
            if (row == null) {
                return MISSING;
            }
            if (!isRow(row)) {
                return CAST;
            }
            words[a] = row.places;
            return NO_FAILURE;
        }

        /** The kinds of rows stand in their order among the operations, but RINGS have none. */
        static int rowKind(int operation) {
            return operation == 9 ? GRID : operation;
        }

        static int rowFailure(Thing row, int wanted, int i) {
            if (hasWrongKind(row, wanted)) {
                return CAST;
            }
            if (row == null) {
                return MISSING;
            }
            return within(i, row.places) ? NO_FAILURE : INDEX;
        }

        int getFromRow(int op, int a, Thing row, int i) {
            int failure = rowFailure(row, rowKind(op - 39), i);
            if (failure != NO_FAILURE) {
                return failure;
            }
            switch (op) {
                case 44: registers.longs[a] = row.numbers[i]; break;
                case 45: registers.singles[a] = (float) row.points[i]; break;
                case 46: registers.doubles[a] = row.points[i]; break;
                case 47:
                case 48: things[a] = row.things[i]; break;
                default: words[a] = (int) row.numbers[i]; break;
            }
            return NO_FAILURE;
        }

        int putIntoRow(int op, int a, Thing row, int i) {
            // CAST of Ta comes ahead of MISSING and INDEX, and CAST of Tb is the same number.
            if (op == 57 && hasWrongKind(things[a], KNOT)) {
                return CAST;
            }
            if (op == 58 && hasWrongKind(things[a], WORDS)) {
                return CAST;
            }
            int failure = rowFailure(row, rowKind(op - 49), i);
            if (failure != NO_FAILURE) {
                return failure;
            }
            if (row.kind == RINGS && hasWrongKind(things[a], RING)) {
                return STORE;
            }
            switch (op) {
                case 54: row.numbers[i] = registers.longs[a]; break;
                case 55: row.points[i] = registers.singles[a]; break;
                case 56: row.points[i] = registers.doubles[a]; break;
                case 57:
                case 58: row.things[i] = things[a]; break;
                default: row.numbers[i] = cutFor(op, words[a]); break;
            }
            return NO_FAILURE;
        }

        static int cutFor(int op, int word) {
            switch (op) {
                case 49: return word & 1;
                case 50: return (byte) word;
                case 51: return (char) word;
                case 52: return (short) word;
                default: return word;
            }
        }

        int workKnot(int op, int a, Thing knot, int c) {
            if (hasWrongKind(knot, op == 66 ? OPS : KNOT)) {
                return CAST;
            }
            if (op == 64 && hasWrongKind(things[a], KNOT)) {
                return CAST;
            }
            if (knot == null) {
                return MISSING;
            }
            switch (op) {
                case 59: words[a] = knot.tag; break;
                case 60: knot.tag = words[a]; break;
                case 61: registers.longs[a] = knot.weight; break;
                case 62: knot.weight = registers.longs[a]; break;
                case 63: things[a] = knot.link; break;
                case 64: knot.link = things[a]; break;
                default: words[a] = knot.turn(words[c]); break;
            }
            return NO_FAILURE;
        }
    }
}
