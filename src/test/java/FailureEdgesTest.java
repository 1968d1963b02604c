/**
 * The edges of FAILURES 1 to 23 and "Of several", operation by operation: which failure comes first,
 * that a failed step changes nothing, and that there is none at the last value that is allowed.
 */
public final class FailureEdgesTest extends LoomTest {
    private static final int NOTHING = -1;
    private static final int KNOTS = 8;
    private static final int RINGS = 9;
    private static final int GRID = 10;
    private static final int KNOT = 11;
    private static final int RING = 12;
    private static final int BOW = 13;
    private static final int SLIP = 14;
    private static final int FAULT = 15;
    private static final int OPS = 16;

    private static boolean is(int kind, int of) {
        return kind == of || of == KNOT && (kind == RING || kind == BOW) || of == RING && kind == BOW || of == KNOTS && kind == RINGS
            || of == OPS && kind >= KNOT && kind <= SLIP;
    }

    private static boolean isNot(int kind, int of) {
        return kind != NOTHING && !is(kind, of);
    }

    /** "39 to 58: CAST of Tb, then CAST of Ta, then MISSING, then INDEX, then STORE." */
    private static int dueInRow(int op, int ta, int tb, int place, int places) {
        int row = (op - 39) % 10;
        if (isNot(tb, row == 9 ? GRID : row)) return CAST;
        if (op == 57 && isNot(ta, KNOT)) return CAST;
        if (op == 58 && isNot(ta, 4)) return CAST;
        if (tb == NOTHING) return MISSING;
        if (place < 0 || place >= places) return INDEX;
        return op == 57 && tb == RINGS && isNot(ta, RING) ? STORE : 0;
    }

    /** The other operations that use a thing; "64: CAST of Tb, then of Ta, then MISSING." */
    private static int dueOfThing(int op, int ta, int tb) {
        if (op == 38) return tb == NOTHING ? MISSING : tb > GRID ? CAST : 0;
        if (op == 67) return isNot(tb, FAULT) ? CAST : 0;
        if (op == 68) return ta == NOTHING ? MISSING : isNot(ta, FAULT) ? CAST : 8 + 2;
        if (op == 70 || op == 71) return tb == NOTHING ? MISSING : isNot(tb, FAULT) ? CAST : 0;
        if (isNot(tb, op == 66 ? OPS : KNOT)) return CAST;
        if (op == 64 && isNot(ta, KNOT)) return CAST;
        return tb == NOTHING ? MISSING : 0;
    }

    /** T1 and T2 have a new thing of those kinds, rows with two places; T3 to T7 and the numbers are not empty; W6 is the place. */
    private static int[][] scene(int ta, int tb, int place) {
        int[][] all = {s(1, 7, 2), s(1, 6, place), s(1, 1, 41), s(1, 2, 42), s(2, 1, 5, 6), s(15, 1, 1), s(16, 1, 1), s(22, 1, 1), s(73, 1), s(29, 10)};
        if (ta != NOTHING) all = with(all, make(1, ta));
        if (tb != NOTHING) all = with(all, make(2, tb));
        if (tb == KNOTS || tb == RINGS) all = with(all, s(33, 3, BOW, 1), s(57, 3, 2, 0));
        if (is(tb, KNOT)) all = with(all, s(33, 3, BOW, 1), s(64, 3, 2), s(62, 1, 2));
        if (tb >= 0 && tb <= 4) all = with(all, s(49 + tb, 1, 2, 0));
        if (tb == 5 || tb == 6 || tb == 7) all = with(all, s(49 + tb, 1, 2, 0));
        return with(all, s(31, 4, 4, 7), s(53, 1, 4, 0), s(33, 5, KNOT, 1), s(64, 5, 5), s(67, 6, 1, 0), s(32, 7, 7, 7));
    }

    private static void fails(String what, int number, int[][] scene, int[] step) {
        if (number == 0) {
            due(what + ": it does not fail", ran(with(scene, step)).state(3), scene.length + 1);
        } else {
            failsAndChangesNothing(what, number, with(scene, step));
            stopsAndChangesNothing(what + ", not handled", number, scene, step);
        }
    }

    private static boolean namesTwoThings(int op) {
        return op == 47 || op == 48 || op == 57 || op == 58 || op == 63 || op == 64 || op == 71;
    }

    /** 39 to 58 with things of all kinds in Ta and Tb, and each place next to the first and the last. */
    private static void rows() {
        for (int op = 39; op <= 58; op++) {
            for (int ta = NOTHING; ta <= (namesTwoThings(op) ? FAULT : NOTHING); ta++) {
                for (int tb = NOTHING; tb <= FAULT; tb++) {
                    for (int place : new int[] {MIN, -1, 0, 1, 2, 3, MAX}) {
                        fails(op + " with " + ta + ", " + tb + " at " + place, dueInRow(op, ta, tb, place, 2), scene(ta, tb, place), s(op, 1, 2, 6));
                    }
                }
            }
        }
    }

    /** "2 INDEX: a row has no such place": rows with no place, with one, and with as many as there may be. */
    private static void lastPlaces() {
        for (int op = 39; op <= 58; op++) {
            int row = (op - 39) % 10;
            int most = row == 9 ? 6 : 12;
            for (int kind : row == 8 ? new int[] {KNOTS, RINGS} : new int[] {row == 9 ? GRID : row}) {
                for (int places : new int[] {0, 1, most - 1, most}) {
                    for (int place : new int[] {-1, 0, places - 1, places, places + 1, 12, 13}) {
                        int[][] scene = {s(1, 7, places), s(1, 6, place), make(2, kind)};
                        fails(op + ": " + places + " places, at " + place, place >= 0 && place < places ? 0 : INDEX, scene, s(op, 1, 2, 6));
                    }
                }
            }
        }
    }

    /** 38, 59 to 66, 67, 68, 70 and 71 with things of all kinds. */
    private static void things() {
        for (int op : new int[] {38, 59, 60, 61, 62, 63, 64, 65, 66, 67, 70, 71}) {
            for (int ta = NOTHING; ta <= (namesTwoThings(op) ? FAULT : NOTHING); ta++) {
                for (int tb = NOTHING; tb <= FAULT; tb++) {
                    int[] step = op == 67 ? s(67, 1, 6, 2) : s(op, 1, 2, 6);
                    fails(op + " with " + ta + ", " + tb, dueOfThing(op, ta, tb), scene(ta, tb, 0), step);
                }
            }
        }
        for (int ta = NOTHING; ta <= FAULT; ta++) fails("68 of " + ta, dueOfThing(68, ta, NOTHING), scene(ta, NOTHING, 0), s(68, 1));
    }

    /** The operations that no thing, place or number makes fail: with NOTHING in all registers. */
    private static void thoseThatDoNotFail() {
        int[] ops = {1, 2, 3, 4, 5, 6, 9, 10, 13, 14, 15, 16, 17, 18, 19, 20, 21, 22, 25, 26, 31, 32, 34, 35, 36, 37, 67, 69, 72, 73};
        for (int op : ops) due(op + " with NOTHING and 0", ran(s(op, 1, 2, 3)).state(7), 0);
        due("33 with NOTHING and 0", ran(s(33, 1, 11, 3)).state(7), 0);
    }

    /** "Of several", each pair of neighbours as the document has them. */
    private static void ofSeveral() {
        int[][] some = {s(1, 7, 3), s(1, 1, -1), s(31, 1, KNOTS, 7), s(31, 2, RINGS, 7), s(33, 3, KNOT, 7), s(33, 4, SLIP, 7), s(31, 5, 4, 7), s(32, 6, 7, 7)};
        fails("39: CAST of Tb ahead of INDEX", CAST, some, s(39, 0, 4, 1));
        fails("57: CAST of Tb and of Ta", CAST, some, s(57, 4, 5, 1));
        fails("57: CAST of Ta ahead of MISSING", CAST, some, s(57, 4, 0, 1));
        fails("57: CAST of Ta ahead of INDEX", CAST, some, s(57, 4, 1, 1));
        fails("57: CAST of Ta ahead of STORE", CAST, some, s(57, 4, 2, 0));
        fails("57: CAST of Tb, Ta is right", CAST, some, s(57, 3, 5, 0));
        fails("57: CAST of Tb, Ta is NOTHING", CAST, some, s(57, 0, 5, 0));
        fails("57: MISSING, Ta is right", MISSING, some, s(57, 3, 0, 0));
        fails("57: MISSING ahead of INDEX", MISSING, some, s(57, 3, 0, 1));
        fails("57: INDEX ahead of STORE", INDEX, some, s(57, 3, 2, 1));
        fails("57: INDEX ahead of STORE, behind the last", INDEX, some, s(57, 3, 2, 7));
        fails("57: STORE", STORE, some, s(57, 3, 2, 0));
        fails("57: KNOTS take it", 0, some, s(57, 3, 1, 0));
        fails("57: RINGS take NOTHING", 0, some, s(57, 0, 2, 0));
        fails("58: CAST of Ta ahead of MISSING", CAST, some, s(58, 3, 0, 1));
        fails("58: CAST of Ta ahead of INDEX", CAST, some, s(58, 3, 6, 1));
        fails("58: CAST of Tb ahead of INDEX", CAST, some, s(58, 5, 5, 1));
        fails("58: MISSING ahead of INDEX", MISSING, some, s(58, 5, 0, 1));
        fails("58: a GRID is no row of WORDS", CAST, some, s(58, 6, 6, 0));
        fails("64: CAST of Tb, Ta is right", CAST, some, s(64, 3, 4));
        fails("64: CAST of Tb, Ta is wrong, too", CAST, some, s(64, 5, 4));
        fails("64: CAST of Tb, Ta is NOTHING", CAST, some, s(64, 0, 4));
        fails("64: CAST of Ta", CAST, some, s(64, 4, 3));
        fails("64: CAST of Ta ahead of MISSING", CAST, some, s(64, 4, 0));
        fails("64: MISSING", MISSING, some, s(64, 3, 0));
        fails("64: MISSING, Ta is NOTHING, too", MISSING, some, s(64, 0, 0));
        fails("65: a slip is no knot", CAST, some, s(65, 0, 4, 0));
        fails("66: a slip is one of the OPS", 0, some, s(66, 0, 4, 0));
    }

    /** So many things. */
    private static int[][] made(int count) {
        int[][] all = {s(1, 7, 3)};
        for (int k = 0; k < count; k++) all = with(all, s(33, 1 + k % 6, 11 + k % 4, 7));
        return all;
    }

    /** "a 61st thing in the run (a GRID is one, its rows are as many more)": 31, 32, 33, 67 */
    private static void roomForThings() {
        int[][] makers = {s(31, 1, 0, 0), s(31, 1, 9, 7), s(33, 1, 11, 7), s(33, 1, 14, 7), s(67, 1, 7, 0), s(32, 1, 0, 0), s(32, 1, 0, 7)};
        for (int[] maker : makers) {
            for (int before : new int[] {0, 58, 59}) {
                Loom x = ran(with(made(before), maker));
                due(maker[0] + ": a thing more than " + before, x.state(5), before + 1);
            }
            fails(maker[0] + ": a 61st thing", ROOM, made(60), maker);
        }
        for (int rows = 0; rows <= 6; rows++) {
            int[] grid = s(32, 1, 6, 0);
            int[][] size = {s(1, 6, rows)};
            due("32: " + rows + " rows, the last is the 59th thing", ran(with(with(made(58 - rows), size), grid)).state(5), 59);
            due("32: " + rows + " rows, the last is the 60th thing", ran(with(with(made(59 - rows), size), grid)).state(5), 60);
            for (int before = 60 - rows; before <= 60; before++) fails("32: " + rows + " rows and " + before + " things", ROOM, with(made(before), size), grid);
        }
        // Behind one that failed for all its rows, what fits is made.
        Loom x = loom(with(made(58), s(32, 1, 7, 7), s(33, 1, 12, 7), s(33, 2, 13, 7), s(33, 3, 11, 7), s(0)));
        x.handler(59, 60, 1 << ROOM, 60);
        x.start();
        due("room behind a GRID that had none: stops at the 61st", run(x), 2);
        due("room behind a GRID that had none: things", x.state(5), 60);
        due("room behind a GRID that had none: place", x.state(9), 62);
        due("room behind a GRID that had none: T1", x.kind(1), 12);
        due("room behind a GRID that had none: T2", x.kind(2), 13);
        due("room behind a GRID that had none: T3", x.kind(3), ran(made(58)).kind(3));
    }

    /** "in 31, 32 ROOM for places ahead of SIZE .., then ROOM for things."; "67: CAST of Tc, then ROOM." */
    private static void roomAndOthers() {
        int[][] full = with(made(60), s(1, 6, -1), s(1, 5, 13), s(1, 4, 6), s(1, 3, 12));
        fails("31: SIZE ahead of ROOM for things", SIZE, full, s(31, 1, 4, 6));
        fails("31: ROOM for places and for things", ROOM, full, s(31, 1, 4, 5));
        fails("31: ROOM for things", ROOM, full, s(31, 1, 4, 3));
        fails("32: SIZE of b ahead of ROOM for things", SIZE, full, s(32, 1, 6, 4));
        fails("32: SIZE of c ahead of ROOM for things", SIZE, full, s(32, 1, 4, 6));
        fails("32: SIZE of both ahead of ROOM for things", SIZE, full, s(32, 1, 6, 6));
        fails("32: ROOM of b ahead of SIZE of c", ROOM, full, s(32, 1, 5, 6));
        fails("32: ROOM of c ahead of SIZE of b", ROOM, full, s(32, 1, 6, 5));
        fails("32: ROOM for things", ROOM, full, s(32, 1, 4, 4));
        for (int kind = 0; kind <= 14; kind++) {
            int[][] first = {s(1, 7, 3), make(7, kind)};
            int things = kind == 10 ? 4 : 1;
            int[][] most = with(with(first, made(60 - things)), s(1, 7, 3));
            fails("67: CAST of " + kind + " ahead of ROOM", CAST, most, s(67, 1, 7, 7));
            fails("67: ROOM, without a CAUSE", ROOM, most, s(67, 1, 7, 0));
        }
        fails("67: ROOM, with a fault as the CAUSE", ROOM, with(with(new int[][] {s(67, 7, 7, 0)}, made(59)), s(1, 7, 3)), s(67, 1, 7, 7));
    }

    /** "a 13th CALL that has not returned" */
    private static void roomForCalls() {
        for (int calls = 0; calls <= 12; calls++) {
            int[][] chain = {s(1, 7, 3)};
            for (int k = 1; k <= calls; k++) chain = with(chain, s(29, k + 1));
            Loom x = ran(chain);
            due("29: " + calls + " CALLs have not returned", x.state(4), calls);
            due("29: " + calls + " CALLs: where", x.state(2), calls + 1);
        }
        int[][] twelve = {s(1, 7, 3)};
        for (int k = 1; k <= 12; k++) twelve = with(twelve, s(29, k + 1));
        fails("29: a 13th CALL", ROOM, twelve, s(29, 0));
        // One has returned: there is room for one more, and for no second.
        Loom x = loom(with(twelve, s(28, 1, 16), s(29, 0), s(0), s(1, 1, 1), s(30)));
        x.start();
        after(x, 13 + 3);
        due("29: 11 have not returned", x.state(4), 11);
        due("29: behind the 12th", x.state(2), 13);
        after(x, 2);
        due("29: 12 again", x.state(4), 12);
        due("29: no failure yet", x.state(7), 0);
        // Twelve CALLs that have all returned leave room for twelve.
        x = started(s(29, 2), s(27, 0), s(30));
        due("29: many that have returned", after(x, 100).state(7), 0);
        due("29: none or one is open", after(x, 1).state(4) <= 1, true);
    }

    public static void main(String[] args) {
        rows();
        lastPlaces();
        things();
        thoseThatDoNotFail();
        ofSeveral();
        roomForThings();
        roomAndOthers();
        roomForCalls();
        finish();
    }
}
